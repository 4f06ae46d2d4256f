/-! THE CLAIM OUT OF ONE WALK OF THE LAW'S BODY. Your part is whole_start (and what it stands on); all else here is the same for every law, but numbers. -/
def R_law : String := "AlgebraTreeLaw"
def lw_P (b : Addr) (xs : List Int32) (args : Array Value) (s : State) : Prop := args = #[.ref b] ∧ s.IntsAt b xs ∧ xs.length ≤ 3072 ∧ (Jvm.Cond.and given_1 narrow_1).before args s = true
def lw_Q (_ : Array Value) (s : State) (o : Outcome) (t : State) : Prop := o = .returned (some (.int 1)) ∧ Framed s o t [] 600000 7302250
def lw_Z (below : List Frame) (a : Array Value) (s : State) : State → Prop := fun t => ∃ o, t.status = .running ∧ Ended t below o ∧ lw_Q a s o t
/-- the law's own end, with 1 on the stack, nothing written that was there before, its room as the claim has it -/
theorem lw_ret {p : Program} {l : Launch} {e : Env} {s : State} {m : MethodId} {below : List Frame} {meth : Method} {c : Code} {b : Nat} (hx : p.tables.exec = Jvm.exec) (hb : c.code = code) (hr : meth.sig.returnType = ret) (hlocks : meth.locks = false) {pc : Nat} {H : Heap} {ls : Array Slot} (hdg : decode code pc = .ok (.ireturn, 1)) : W p l e room_1 s m #[Value.ref b] below meth c H [] 600000 7302250 (lw_Z below #[Value.ref b] s) (F0 m pc ls [.int 1]) := by
  intro T hT X
  obtain ⟨fs, hret, hrun, hended, hW, hframe⟩ := X.leave (v := some (.int 1)) (hlocks := hlocks) (fun h => by rw [hr] at h; cases h)
  have hmeth' : T.vm.method? m = some meth := X.method'
  refine ⟨T.setFrames fs, ?_, .returned (some (.int 1)), hrun, hended, rfl, ⟨_, rfl⟩, hW, hframe⟩
  jvm_step X.here [X.here.top, hx, hb, hdg, hmeth', hr, ret, narrow_b1]
  (try refine ⟨rfl, ?_⟩); (try refine ⟨rfl, ?_⟩)
  first | (intro acts; rw [hret _ acts rfl rfl rfl]) | rw [hret _ _ rfl rfl rfl]
  exact Steps.refl _
/-- what holds at the law's entry: the machine, the code, the tables' words (any of lw_tbl by 'hts w (by decide +kernel)'), the script of L ints xs at the cell b, what the Statement gives of the start (any of its parts by flat_of_before) -/
def lw_At (p : Program) (s : State) (m : MethodId) (meth : Method) (c : Code) (b L : Nat) (xs : Nat → Int32) : Prop :=
  p.tables.exec = Jvm.exec ∧ c.code = code ∧ meth.sig.returnType = ret ∧ c.maxLocals = 4 ∧ s.vm.findClass R_law = some m.cls ∧ (∀ w ∈ lw_tbl, w.before #[Value.ref b] s = true) ∧ va_X b L xs s s.heap ∧ b < s.heap.size ∧ meth.locks = false ∧ (Jvm.Cond.and given_1 narrow_1).before #[Value.ref b] s = true
section KLAW
variable {p : Program} {l : Launch} {e : Env} {s : State} {m : MethodId} {args : Array Value} {below : List Frame} {meth : Method} {c : Code} {D : va_G} {base nL : Nat} {Q : State → Prop} {V : gv_V} {cells slots : Nat} {lv : List (Nat × Value)} {R : Room}
variable {cc : ByteArray} {pc : Nat} {rest : List Value} {own : String} {tys : List (ClassId × FieldType)}
/-- the script is read -/
theorem k_sld (C : gv_C p s m args c cc nL own D tys base) {b L : Nat} {xs : Nat → Int32} {v : Int32} (hX : va_X b L xs s s.heap) (hbl : b < s.heap.size) (hbA : ¬ base ≤ b) {i : Int32} (hin : vp_in i L) (hv : xs i.toNatClampNeg = v) (hdg : decode cc pc = .ok (.iaload, 1)) (k : K p l e R s m args below meth c D base nL Q V cells slots lv (pc + 1) (.int v :: rest)) : K p l e R s m args below meth c D base nL Q V cells slots lv pc (.int i :: .ref b :: rest) := fun H locs ls gh gs gl => va_sld C.1 C.2.1 hX hbl hbA gs hin hdg (by rw [hv]; exact k H locs ls gh gs gl)
theorem k_slen (C : gv_C p s m args c cc nL own D tys base) {b L : Nat} {xs : Nat → Int32} (hX : va_X b L xs s s.heap) (hbl : b < s.heap.size) (hbA : ¬ base ≤ b) (hdg : decode cc pc = .ok (.arraylength, 1)) (k : K p l e R s m args below meth c D base nL Q V cells slots lv (pc + 1) (.int (nI L) :: rest)) : K p l e R s m args below meth c D base nL Q V cells slots lv pc (.ref b :: rest) := fun H locs ls gh gs gl => va_slen C.1 C.2.1 hX hbl hbA gs hdg (k H locs ls gh gs gl)
theorem k_lend {b : Nat} (C : gv_C p s m #[Value.ref b] c code nL own D tys s.heap.size) (hr : meth.sig.returnType = ret) (hlocks : meth.locks = false) (hc : cells ≤ 600000) (hs : slots ≤ 7302250) (hdg : decode code pc = .ok (.ireturn, 1)) : K p l e room_1 s m #[Value.ref b] below meth c D s.heap.size nL (lw_Z below #[Value.ref b] s) V cells slots lv pc [.int 1] := fun H locs ls gh gs gl => by
  refine va_forget (fun q hq => gs.2.2 q hq) ?_
  refine W.widen hc hs ?_
  exact lw_ret C.1 C.2.1 hr hlocks hdg
end KLAW
theorem and31 (x : Int32) : ∃ k, k < 32 ∧ x &&& nI 31 = nI k := by
  refine ⟨x.toBitVec.toNat % 32, Nat.mod_lt _ (by decide), ?_⟩
  apply Int32.toBitVec_inj.mp
  apply BitVec.eq_of_toNat_eq
  rw [Int32.toBitVec_and, BitVec.toNat_and]
  have h1 : (nI 31).toBitVec.toNat = 2 ^ 5 - 1 := by decide
  have h2 : (nI (x.toBitVec.toNat % 32)).toBitVec.toNat = x.toBitVec.toNat % 32 := by
    show (BitVec.ofNat 32 (x.toBitVec.toNat % 32)).toNat = _
    rw [BitVec.toNat_ofNat]
    exact Nat.mod_eq_of_lt (Nat.lt_trans (Nat.mod_lt _ (by decide)) (by decide))
  rw [h1, h2, Nat.and_two_pow_sub_one_eq_mod]
theorem law_go {L it : Nat} (hL : L ≤ 3072) (hi : 6 * it ≤ L) (h : ¬ nI L - nI 6 < nI (6 * it)) : 6 * it + 6 ≤ L := by
  rcases Nat.lt_or_ge L 6 with h6 | h6
  · have e : it = 0 := by omega
    subst e
    exfalso
    rcases (show L = 0 ∨ L = 1 ∨ L = 2 ∨ L = 3 ∨ L = 4 ∨ L = 5 by omega) with rfl | rfl | rfl | rfl | rfl | rfl <;> exact h (by decide)
  · rw [pk_sub h6] at h
    rcases Nat.lt_or_ge (L - 6) (6 * it) with h7 | h7
    · exact absurd ((nI_ltI (by omega) (by omega)).mpr h7) h
    · omega
set_option maxHeartbeats 16000000 in
set_option maxRecDepth 100000 in
theorem k_loop {zp : Program} {zl : Launch} {ze : Env} {zs : State} {zm : MethodId} {zbelow : List Frame} {zmeth : Method} {zc : Code} {D : va_G} {cI cN cR : ClassId} {b L : Nat} {xs : Nat → Int32} {ob m wt wa wv wm wr wc wn ws wk wp : Nat} {V0 : gv_V} {z0 : Zt} (C : gv_C zp zs zm #[Value.ref b] zc code 4 "AlgebraTreeLaw" D [(cI, .int), (cN, .object "AlgebraTree$Node"), (cR, .object "AlgebraTree$Rows")] zs.heap.size) (hr : zmeth.sig.returnType = ret) (hlocks : zmeth.locks = false) (hX : va_X b L xs zs zs.heap) (hbl : b < zs.heap.size) (hbA : ¬ zs.heap.size ≤ b) (hL : L ≤ 3072) (hob : ¬ MO m wt wa wv wm wr wc wn ws wk wp ob) (hFi : FZ cI cN cR (lO ob m wt wa wv wm wr wc wn ws wk wp) V0 ob z0 0) (hMi : MZ cI V0 m wt wa wv wm wr wc wn ws wk wp z0) : K zp zl ze room_1 zs zm #[Value.ref b] zbelow zmeth zc D zs.heap.size 4 (lw_Z zbelow #[Value.ref b] zs) V0 (32 + 0 + 2 * 0) (60166 + 14 * 0 + 490 * 0) [(3, .int (nI (6 * 0))), (0, .ref b), (1, .ref ob), (2, .ref m)] 18 [] := by
  have L18 : ∀ (zn1 : Nat) (V : gv_V) (z : Zt) (tc : Nat) (it : Nat), L - 6 * it < zn1 → (6 * it ≤ L) → (FZ cI cN cR (lO ob m wt wa wv wm wr wc wn ws wk wp) V ob z tc) → (MZ cI V m wt wa wv wm wr wc wn ws wk wp z) → K zp zl ze room_1 zs zm #[Value.ref b] zbelow zmeth zc D zs.heap.size 4 (lw_Z zbelow #[Value.ref b] zs) V (32 + it + 2 * tc) (60166 + 14 * it + 490 * tc) [(3, .int (nI (6 * it))), (0, .ref b), (1, .ref ob), (2, .ref m)] 18 [] := by
    intro zn1
    induction zn1 with
    | zero => intro V z tc it hlt; exact absurd hlt (Nat.not_lt_zero _)
    | succ zn1 ih18 =>
      intro V z tc it hlt18  hi hF0 hM0
      obtain ⟨T, E, ne, qk, nv, nn, L0⟩ := z
      have hF : FC cI cN cR (lO ob m wt wa wv wm wr wc wn ws wk wp) V ob T E ne qk nv nn L0 tc := hF0
      have hM : MC cI V m wt wa wv wm wr wc wn ws wk wp T E ne qk nv nn L0 := hM0
      have htc := FC.tcle hF
      have hit : it ≤ 512 := by omega
      refine k_iload_n C dL_law_18 rfl 0 rfl ?_
      refine k_aload_n C dL_law_19 rfl 1 rfl ?_
      refine k_slen C hX hbl hbA dL_law_20 ?_
      refine k_bipush (v := nI 6) C dL_law_21 rfl ?_
      refine k_isub C dL_law_23 ?_
      refine k_icmp_gt (tgt := 900) C dL_law_24 (by decide) (fun c24 => ?_) (fun c24 => ?_)
      · skip
        refine k_iconst (v := nI 1) C dL_law_900 rfl ?_
        exact k_lend C hr hlocks (by omega) (by omega) dL_law_901
      · skip
        have hgo := law_go hL hi c24
        refine k_aload_n C dL_law_27 rfl 1 rfl ?_
        refine k_iload_n C dL_law_28 rfl 0 rfl ?_
        refine k_sld (v := xs (6 * it)) C hX hbl hbA (vp_in_nI (by omega) (by omega)) (by rw [nI_clamp (by omega)]) dL_law_29 ?_
        refine k_bipush (v := nI 31) C dL_law_30 rfl ?_
        obtain ⟨k, hk, ek⟩ := and31 (xs (6 * it))
        refine k_iand C dL_law_32 ?_
        refine k_val (y := nI k) ek ?_
        rcases (show k = 0 ∨ k = 1 ∨ k = 2 ∨ k = 3 ∨ k = 4 ∨ k = 5 ∨ k = 6 ∨ k = 7 ∨ k = 8 ∨ k = 9 ∨ k = 10 ∨ k = 11 ∨ k = 12 ∨ k = 13 ∨ k = 14 ∨ k = 15 ∨ k = 16 ∨ k = 17 ∨ k = 18 ∨ k = 19 ∨ k = 20 ∨ k = 21 ∨ k = 22 ∨ k = 23 ∨ k = 24 ∨ k = 25 ∨ k = 26 ∨ k = 27 ∨ k = 28 ∨ k = 29 ∨ k = 30 ∨ k = 31 from (by omega)) with sw33 | sw33 | sw33 | sw33 | sw33 | sw33 | sw33 | sw33 | sw33 | sw33 | sw33 | sw33 | sw33 | sw33 | sw33 | sw33 | sw33 | sw33 | sw33 | sw33 | sw33 | sw33 | sw33 | sw33 | sw33 | sw33 | sw33 | sw33 | sw33 | sw33 | sw33 | sw33
        · skip
          refine k_val (y := nI 0) (by rw [sw33]) ?_
          refine k_tableIn (tgt := 128) C dL_law_33 (by decide) (by decide) rfl (by decide) ?_
          refine k_aload_n C dL_law_128 rfl 2 rfl ?_
          refine k_aload_n C dL_law_129 rfl 1 rfl ?_
          refine k_iload_n C dL_law_130 rfl 0 rfl ?_
          refine k_iconst (v := nI 1) C dL_law_131 rfl ?_
          refine k_iadd C dL_law_132 ?_
          refine k_val (y := nI ((6 * it) + 1)) (nI_add (6 * it) 1) ?_
          refine k_sld (v := xs ((6 * it) + 1)) C hX hbl hbA (vp_in_nI (by omega) (by omega)) (by rw [nI_clamp (by omega)]) dL_law_133 ?_
          refine k_aload_n C dL_law_134 rfl 1 rfl ?_
          refine k_iload_n C dL_law_135 rfl 0 rfl ?_
          refine k_iconst (v := nI 2) C dL_law_136 rfl ?_
          refine k_iadd C dL_law_137 ?_
          refine k_val (y := nI ((6 * it) + 2)) (nI_add (6 * it) 2) ?_
          refine k_sld (v := xs ((6 * it) + 2)) C hX hbl hbA (vp_in_nI (by omega) (by omega)) (by rw [nI_clamp (by omega)]) dL_law_138 ?_
          refine k_aload_n C dL_law_139 rfl 1 rfl ?_
          refine k_iload_n C dL_law_140 rfl 0 rfl ?_
          refine k_iconst (v := nI 3) C dL_law_141 rfl ?_
          refine k_iadd C dL_law_142 ?_
          refine k_val (y := nI ((6 * it) + 3)) (nI_add (6 * it) 3) ?_
          refine k_sld (v := xs ((6 * it) + 3)) C hX hbl hbA (vp_in_nI (by omega) (by omega)) (by rw [nI_clamp (by omega)]) dL_law_143 ?_
          refine k_aload_n C dL_law_144 rfl 1 rfl ?_
          refine k_iload_n C dL_law_145 rfl 0 rfl ?_
          refine k_iconst (v := nI 4) C dL_law_146 rfl ?_
          refine k_iadd C dL_law_147 ?_
          refine k_val (y := nI ((6 * it) + 4)) (nI_add (6 * it) 4) ?_
          refine k_sld (v := xs ((6 * it) + 4)) C hX hbl hbA (vp_in_nI (by omega) (by omega)) (by rw [nI_clamp (by omega)]) dL_law_148 ?_
          obtain ⟨obf, h_ob⟩ := FC.obj hF
          refine k_callV C mv_L_13 (hz_triple (x := xs ((6 * it) + 1)) (y := xs ((6 * it) + 2)) (z := xs ((6 * it) + 3)) (w := xs ((6 * it) + 4)) hF) h_ob rfl rfl (by simp [Value.category]) ⟨Nat.le_of_ble_eq_true rfl, Nat.le_of_ble_eq_true rfl⟩ ⟨(Nat.le_trans (show 32 + it + 2 * tc + 0 ≤ 784 by omega) (Nat.le_of_ble_eq_true rfl)), (Nat.le_trans (show 60166 + 14 * it + 490 * tc + 0 ≤ 126134 by omega) (Nat.le_of_ble_eq_true rfl))⟩ dL_law_149 (fun zv W1 zh => ?_)
          obtain ⟨rfl, hF1, hfr1⟩ := zh
          have hM1 : MZ cI W1 m wt wa wv wm wr wc wn ws wk wp (T, E, ne, qk, nv, nn, L0) := ls1 hM hfr1
          obtain ⟨mbf, h_mb⟩ := MC.ob hM1
          refine k_pc (pc' := 152) (st' := [.int (if (blw (xs ((6 * it) + 1)) (nI 4) && blw (xs ((6 * it) + 2)) (nI 1000) && blw (xs ((6 * it) + 3)) (nI 1000) && blw (xs ((6 * it) + 4)) (nI 1000) && !decide (T.length = 60) && !trIn T ((xs ((6 * it) + 1)), (xs ((6 * it) + 2)), (xs ((6 * it) + 3)), (xs ((6 * it) + 4)))) = true then nI T.length else -1)]) rfl rfl ?_
          refine k_aload_n C dL_law_152 rfl 3 rfl ?_
          refine k_aload_n C dL_law_153 rfl 1 rfl ?_
          refine k_iload_n C dL_law_154 rfl 0 rfl ?_
          refine k_iconst (v := nI 1) C dL_law_155 rfl ?_
          refine k_iadd C dL_law_156 ?_
          refine k_val (y := nI ((6 * it) + 1)) (nI_add (6 * it) 1) ?_
          refine k_sld (v := xs ((6 * it) + 1)) C hX hbl hbA (vp_in_nI (by omega) (by omega)) (by rw [nI_clamp (by omega)]) dL_law_157 ?_
          refine k_aload_n C dL_law_158 rfl 1 rfl ?_
          refine k_iload_n C dL_law_159 rfl 0 rfl ?_
          refine k_iconst (v := nI 2) C dL_law_160 rfl ?_
          refine k_iadd C dL_law_161 ?_
          refine k_val (y := nI ((6 * it) + 2)) (nI_add (6 * it) 2) ?_
          refine k_sld (v := xs ((6 * it) + 2)) C hX hbl hbA (vp_in_nI (by omega) (by omega)) (by rw [nI_clamp (by omega)]) dL_law_162 ?_
          refine k_aload_n C dL_law_163 rfl 1 rfl ?_
          refine k_iload_n C dL_law_164 rfl 0 rfl ?_
          refine k_iconst (v := nI 3) C dL_law_165 rfl ?_
          refine k_iadd C dL_law_166 ?_
          refine k_val (y := nI ((6 * it) + 3)) (nI_add (6 * it) 3) ?_
          refine k_sld (v := xs ((6 * it) + 3)) C hX hbl hbA (vp_in_nI (by omega) (by omega)) (by rw [nI_clamp (by omega)]) dL_law_167 ?_
          refine k_aload_n C dL_law_168 rfl 1 rfl ?_
          refine k_iload_n C dL_law_169 rfl 0 rfl ?_
          refine k_iconst (v := nI 4) C dL_law_170 rfl ?_
          refine k_iadd C dL_law_171 ?_
          refine k_val (y := nI ((6 * it) + 4)) (nI_add (6 * it) 4) ?_
          refine k_sld (v := xs ((6 * it) + 4)) C hX hbl hbA (vp_in_nI (by omega) (by omega)) (by rw [nI_clamp (by omega)]) dL_law_172 ?_
          refine k_callV C mv_L_17 (gz_triple (x := xs ((6 * it) + 1)) (y := xs ((6 * it) + 2)) (z := xs ((6 * it) + 3)) (w := xs ((6 * it) + 4)) hM1) h_mb rfl rfl (by simp [Value.category]) ⟨Nat.le_of_ble_eq_true rfl, Nat.le_of_ble_eq_true rfl⟩ ⟨(Nat.le_trans (show 32 + it + 2 * tc + 0 + 0 ≤ 784 by omega) (Nat.le_of_ble_eq_true rfl)), (Nat.le_trans (show 60166 + 14 * it + 490 * tc + 0 + 0 ≤ 126134 by omega) (Nat.le_of_ble_eq_true rfl))⟩ dL_law_173 (fun zv W2 zh => ?_)
          obtain ⟨rfl, hM2, hfr2⟩ := zh
          have hF2 := ls2 hF1 hM2 hfr2 hob
          refine k_pc (pc' := 176) (st' := [.int (if (blw (xs ((6 * it) + 1)) (nI 4) && blw (xs ((6 * it) + 2)) (nI 1000) && blw (xs ((6 * it) + 3)) (nI 1000) && blw (xs ((6 * it) + 4)) (nI 1000) && !decide (T.length = 60) && !trIn T ((xs ((6 * it) + 1)), (xs ((6 * it) + 2)), (xs ((6 * it) + 3)), (xs ((6 * it) + 4)))) = true then nI T.length else -1), .int (if (blw (xs ((6 * it) + 1)) (nI 4) && blw (xs ((6 * it) + 2)) (nI 1000) && blw (xs ((6 * it) + 3)) (nI 1000) && blw (xs ((6 * it) + 4)) (nI 1000) && !decide (T.length = 60) && !trIn T ((xs ((6 * it) + 1)), (xs ((6 * it) + 2)), (xs ((6 * it) + 3)), (xs ((6 * it) + 4)))) = true then nI T.length else -1)]) rfl rfl ?_
          refine k_icmp_eq (tgt := 894) C dL_law_176 (by decide) (fun c176 => ?_) (fun c176 => ?_)
          · skip
            refine k_iinc (v := nI ((6 * it) + 6)) (lv' := [(3, .int (nI ((6 * it) + 6))), (0, .ref b), (1, .ref ob), (2, .ref m)]) C dL_law_894 (k := 0) rfl (nI_add (6 * it) 6) (by decide) rfl ?_
            refine k_goto (tgt := 18) C dL_law_897 (by decide) ?_
            refine k_lve (lv' := [(3, .int (nI (6 * (it + 1)))), (0, .ref b), (1, .ref ob), (2, .ref m)]) (by rw [show (6 * it) + 6 = 6 * (it + 1) by omega]) ?_
            refine k_wide (k := 32 + (it + 1) + 2 * tc) (n := 60166 + 14 * (it + 1) + 490 * tc) (by omega) (by omega) ?_
            exact ih18 W2 (if (blw (xs ((6 * it) + 1)) (nI 4) && blw (xs ((6 * it) + 2)) (nI 1000) && blw (xs ((6 * it) + 3)) (nI 1000) && blw (xs ((6 * it) + 4)) (nI 1000) && !decide (T.length = 60) && !trIn T ((xs ((6 * it) + 1)), (xs ((6 * it) + 2)), (xs ((6 * it) + 3)), (xs ((6 * it) + 4)))) = true then (T ++ [((xs ((6 * it) + 1)), (xs ((6 * it) + 2)), (xs ((6 * it) + 3)), (xs ((6 * it) + 4)))], E, ne, qk, nv, nn, L0) else (T, E, ne, qk, nv, nn, L0)) tc (it + 1) (by omega)  (by omega) hF2 hM2
          · skip
            exact absurd rfl c176
        · skip
          refine k_val (y := nI 1) (by rw [sw33]) ?_
          refine k_tableIn (tgt := 181) C dL_law_33 (by decide) (by decide) rfl (by decide) ?_
          refine k_aload_n C dL_law_181 rfl 2 rfl ?_
          refine k_aload_n C dL_law_182 rfl 1 rfl ?_
          refine k_iload_n C dL_law_183 rfl 0 rfl ?_
          refine k_iconst (v := nI 1) C dL_law_184 rfl ?_
          refine k_iadd C dL_law_185 ?_
          refine k_val (y := nI ((6 * it) + 1)) (nI_add (6 * it) 1) ?_
          refine k_sld (v := xs ((6 * it) + 1)) C hX hbl hbA (vp_in_nI (by omega) (by omega)) (by rw [nI_clamp (by omega)]) dL_law_186 ?_
          refine k_aload_n C dL_law_187 rfl 1 rfl ?_
          refine k_iload_n C dL_law_188 rfl 0 rfl ?_
          refine k_iconst (v := nI 2) C dL_law_189 rfl ?_
          refine k_iadd C dL_law_190 ?_
          refine k_val (y := nI ((6 * it) + 2)) (nI_add (6 * it) 2) ?_
          refine k_sld (v := xs ((6 * it) + 2)) C hX hbl hbA (vp_in_nI (by omega) (by omega)) (by rw [nI_clamp (by omega)]) dL_law_191 ?_
          obtain ⟨obf, h_ob⟩ := FC.obj hF
          refine k_callV C mv_L_18 (hz_leaf (x := xs ((6 * it) + 1)) (y := xs ((6 * it) + 2)) hF) h_ob rfl rfl (by simp [Value.category]) ⟨Nat.le_of_ble_eq_true rfl, Nat.le_of_ble_eq_true rfl⟩ ⟨(Nat.le_trans (show 32 + it + 2 * tc + 0 ≤ 784 by omega) (Nat.le_of_ble_eq_true rfl)), (Nat.le_trans (show 60166 + 14 * it + 490 * tc + 0 ≤ 126134 by omega) (Nat.le_of_ble_eq_true rfl))⟩ dL_law_192 (fun zv W1 zh => ?_)
          obtain ⟨rfl, hF1, hfr1⟩ := zh
          have hM1 : MZ cI W1 m wt wa wv wm wr wc wn ws wk wp (T, E, ne, qk, nv, nn, L0) := ls1 hM hfr1
          obtain ⟨mbf, h_mb⟩ := MC.ob hM1
          refine k_pc (pc' := 195) (st' := [.int (if (blw (xs ((6 * it) + 1)) (nI 3) && (if (xs ((6 * it) + 1)) = 0 then wtn (xs ((6 * it) + 2)).toInt64 (1000000 : Int32) else blw (xs ((6 * it) + 2)) (nI 6)) && !decide (ne = 30)) = true then nI ne else -1)]) rfl rfl ?_
          refine k_aload_n C dL_law_195 rfl 3 rfl ?_
          refine k_aload_n C dL_law_196 rfl 1 rfl ?_
          refine k_iload_n C dL_law_197 rfl 0 rfl ?_
          refine k_iconst (v := nI 1) C dL_law_198 rfl ?_
          refine k_iadd C dL_law_199 ?_
          refine k_val (y := nI ((6 * it) + 1)) (nI_add (6 * it) 1) ?_
          refine k_sld (v := xs ((6 * it) + 1)) C hX hbl hbA (vp_in_nI (by omega) (by omega)) (by rw [nI_clamp (by omega)]) dL_law_200 ?_
          refine k_aload_n C dL_law_201 rfl 1 rfl ?_
          refine k_iload_n C dL_law_202 rfl 0 rfl ?_
          refine k_iconst (v := nI 2) C dL_law_203 rfl ?_
          refine k_iadd C dL_law_204 ?_
          refine k_val (y := nI ((6 * it) + 2)) (nI_add (6 * it) 2) ?_
          refine k_sld (v := xs ((6 * it) + 2)) C hX hbl hbA (vp_in_nI (by omega) (by omega)) (by rw [nI_clamp (by omega)]) dL_law_205 ?_
          refine k_callV C mv_L_22 (gz_leaf (x := xs ((6 * it) + 1)) (y := xs ((6 * it) + 2)) hM1) h_mb rfl rfl (by simp [Value.category]) ⟨Nat.le_of_ble_eq_true rfl, Nat.le_of_ble_eq_true rfl⟩ ⟨(Nat.le_trans (show 32 + it + 2 * tc + 0 + 0 ≤ 784 by omega) (Nat.le_of_ble_eq_true rfl)), (Nat.le_trans (show 60166 + 14 * it + 490 * tc + 0 + 0 ≤ 126134 by omega) (Nat.le_of_ble_eq_true rfl))⟩ dL_law_206 (fun zv W2 zh => ?_)
          obtain ⟨rfl, hM2, hfr2⟩ := zh
          have hF2 := ls2 hF1 hM2 hfr2 hob
          refine k_pc (pc' := 209) (st' := [.int (if (blw (xs ((6 * it) + 1)) (nI 3) && (if (xs ((6 * it) + 1)) = 0 then wtn (xs ((6 * it) + 2)).toInt64 (1000000 : Int32) else blw (xs ((6 * it) + 2)) (nI 6)) && !decide (ne = 30)) = true then nI ne else -1), .int (if (blw (xs ((6 * it) + 1)) (nI 3) && (if (xs ((6 * it) + 1)) = 0 then wtn (xs ((6 * it) + 2)).toInt64 (1000000 : Int32) else blw (xs ((6 * it) + 2)) (nI 6)) && !decide (ne = 30)) = true then nI ne else -1)]) rfl rfl ?_
          refine k_icmp_eq (tgt := 894) C dL_law_209 (by decide) (fun c209 => ?_) (fun c209 => ?_)
          · skip
            refine k_iinc (v := nI ((6 * it) + 6)) (lv' := [(3, .int (nI ((6 * it) + 6))), (0, .ref b), (1, .ref ob), (2, .ref m)]) C dL_law_894 (k := 0) rfl (nI_add (6 * it) 6) (by decide) rfl ?_
            refine k_goto (tgt := 18) C dL_law_897 (by decide) ?_
            refine k_lve (lv' := [(3, .int (nI (6 * (it + 1)))), (0, .ref b), (1, .ref ob), (2, .ref m)]) (by rw [show (6 * it) + 6 = 6 * (it + 1) by omega]) ?_
            refine k_wide (k := 32 + (it + 1) + 2 * tc) (n := 60166 + 14 * (it + 1) + 490 * tc) (by omega) (by omega) ?_
            exact ih18 W2 (if (blw (xs ((6 * it) + 1)) (nI 3) && (if (xs ((6 * it) + 1)) = 0 then wtn (xs ((6 * it) + 2)).toInt64 (1000000 : Int32) else blw (xs ((6 * it) + 2)) (nI 6)) && !decide (ne = 30)) = true then (T, va_up E ne (9 + tn (xs ((6 * it) + 1)), (xs ((6 * it) + 2)), 0), ne + 1, qk, nv, nn, L0) else (T, E, ne, qk, nv, nn, L0)) tc (it + 1) (by omega)  (by omega) hF2 hM2
          · skip
            exact absurd rfl c209
        · skip
          refine k_val (y := nI 2) (by rw [sw33]) ?_
          refine k_tableIn (tgt := 214) C dL_law_33 (by decide) (by decide) rfl (by decide) ?_
          refine k_aload_n C dL_law_214 rfl 2 rfl ?_
          refine k_aload_n C dL_law_215 rfl 1 rfl ?_
          refine k_iload_n C dL_law_216 rfl 0 rfl ?_
          refine k_iconst (v := nI 1) C dL_law_217 rfl ?_
          refine k_iadd C dL_law_218 ?_
          refine k_val (y := nI ((6 * it) + 1)) (nI_add (6 * it) 1) ?_
          refine k_sld (v := xs ((6 * it) + 1)) C hX hbl hbA (vp_in_nI (by omega) (by omega)) (by rw [nI_clamp (by omega)]) dL_law_219 ?_
          refine k_aload_n C dL_law_220 rfl 1 rfl ?_
          refine k_iload_n C dL_law_221 rfl 0 rfl ?_
          refine k_iconst (v := nI 2) C dL_law_222 rfl ?_
          refine k_iadd C dL_law_223 ?_
          refine k_val (y := nI ((6 * it) + 2)) (nI_add (6 * it) 2) ?_
          refine k_sld (v := xs ((6 * it) + 2)) C hX hbl hbA (vp_in_nI (by omega) (by omega)) (by rw [nI_clamp (by omega)]) dL_law_224 ?_
          refine k_aload_n C dL_law_225 rfl 1 rfl ?_
          refine k_iload_n C dL_law_226 rfl 0 rfl ?_
          refine k_iconst (v := nI 3) C dL_law_227 rfl ?_
          refine k_iadd C dL_law_228 ?_
          refine k_val (y := nI ((6 * it) + 3)) (nI_add (6 * it) 3) ?_
          refine k_sld (v := xs ((6 * it) + 3)) C hX hbl hbA (vp_in_nI (by omega) (by omega)) (by rw [nI_clamp (by omega)]) dL_law_229 ?_
          obtain ⟨obf, h_ob⟩ := FC.obj hF
          refine k_callV C mv_L_23 (hz_apply (x := xs ((6 * it) + 1)) (y := xs ((6 * it) + 2)) (z := xs ((6 * it) + 3)) hF) h_ob rfl rfl (by simp [Value.category]) ⟨Nat.le_of_ble_eq_true rfl, Nat.le_of_ble_eq_true rfl⟩ ⟨(Nat.le_trans (show 32 + it + 2 * tc + 0 ≤ 784 by omega) (Nat.le_of_ble_eq_true rfl)), (Nat.le_trans (show 60166 + 14 * it + 490 * tc + 0 ≤ 126134 by omega) (Nat.le_of_ble_eq_true rfl))⟩ dL_law_230 (fun zv W1 zh => ?_)
          obtain ⟨rfl, hF1, hfr1⟩ := zh
          have hM1 : MZ cI W1 m wt wa wv wm wr wc wn ws wk wp (T, E, ne, qk, nv, nn, L0) := ls1 hM hfr1
          obtain ⟨mbf, h_mb⟩ := MC.ob hM1
          refine k_pc (pc' := 233) (st' := [.int (if (blw (xs ((6 * it) + 1)) (nI 9) && blw (xs ((6 * it) + 2)) (nI ne) && ((xs ((6 * it) + 1)) == 8 || blw (xs ((6 * it) + 3)) (nI ne)) && !decide (ne = 30)) = true then nI ne else -1)]) rfl rfl ?_
          refine k_aload_n C dL_law_233 rfl 3 rfl ?_
          refine k_aload_n C dL_law_234 rfl 1 rfl ?_
          refine k_iload_n C dL_law_235 rfl 0 rfl ?_
          refine k_iconst (v := nI 1) C dL_law_236 rfl ?_
          refine k_iadd C dL_law_237 ?_
          refine k_val (y := nI ((6 * it) + 1)) (nI_add (6 * it) 1) ?_
          refine k_sld (v := xs ((6 * it) + 1)) C hX hbl hbA (vp_in_nI (by omega) (by omega)) (by rw [nI_clamp (by omega)]) dL_law_238 ?_
          refine k_aload_n C dL_law_239 rfl 1 rfl ?_
          refine k_iload_n C dL_law_240 rfl 0 rfl ?_
          refine k_iconst (v := nI 2) C dL_law_241 rfl ?_
          refine k_iadd C dL_law_242 ?_
          refine k_val (y := nI ((6 * it) + 2)) (nI_add (6 * it) 2) ?_
          refine k_sld (v := xs ((6 * it) + 2)) C hX hbl hbA (vp_in_nI (by omega) (by omega)) (by rw [nI_clamp (by omega)]) dL_law_243 ?_
          refine k_aload_n C dL_law_244 rfl 1 rfl ?_
          refine k_iload_n C dL_law_245 rfl 0 rfl ?_
          refine k_iconst (v := nI 3) C dL_law_246 rfl ?_
          refine k_iadd C dL_law_247 ?_
          refine k_val (y := nI ((6 * it) + 3)) (nI_add (6 * it) 3) ?_
          refine k_sld (v := xs ((6 * it) + 3)) C hX hbl hbA (vp_in_nI (by omega) (by omega)) (by rw [nI_clamp (by omega)]) dL_law_248 ?_
          refine k_callV C mv_L_27 (gz_apply (x := xs ((6 * it) + 1)) (y := xs ((6 * it) + 2)) (z := xs ((6 * it) + 3)) hM1) h_mb rfl rfl (by simp [Value.category]) ⟨Nat.le_of_ble_eq_true rfl, Nat.le_of_ble_eq_true rfl⟩ ⟨(Nat.le_trans (show 32 + it + 2 * tc + 0 + 0 ≤ 784 by omega) (Nat.le_of_ble_eq_true rfl)), (Nat.le_trans (show 60166 + 14 * it + 490 * tc + 0 + 0 ≤ 126134 by omega) (Nat.le_of_ble_eq_true rfl))⟩ dL_law_249 (fun zv W2 zh => ?_)
          obtain ⟨rfl, hM2, hfr2⟩ := zh
          have hF2 := ls2 hF1 hM2 hfr2 hob
          refine k_pc (pc' := 252) (st' := [.int (if (blw (xs ((6 * it) + 1)) (nI 9) && blw (xs ((6 * it) + 2)) (nI ne) && ((xs ((6 * it) + 1)) == 8 || blw (xs ((6 * it) + 3)) (nI ne)) && !decide (ne = 30)) = true then nI ne else -1), .int (if (blw (xs ((6 * it) + 1)) (nI 9) && blw (xs ((6 * it) + 2)) (nI ne) && ((xs ((6 * it) + 1)) == 8 || blw (xs ((6 * it) + 3)) (nI ne)) && !decide (ne = 30)) = true then nI ne else -1)]) rfl rfl ?_
          refine k_icmp_eq (tgt := 894) C dL_law_252 (by decide) (fun c252 => ?_) (fun c252 => ?_)
          · skip
            refine k_iinc (v := nI ((6 * it) + 6)) (lv' := [(3, .int (nI ((6 * it) + 6))), (0, .ref b), (1, .ref ob), (2, .ref m)]) C dL_law_894 (k := 0) rfl (nI_add (6 * it) 6) (by decide) rfl ?_
            refine k_goto (tgt := 18) C dL_law_897 (by decide) ?_
            refine k_lve (lv' := [(3, .int (nI (6 * (it + 1)))), (0, .ref b), (1, .ref ob), (2, .ref m)]) (by rw [show (6 * it) + 6 = 6 * (it + 1) by omega]) ?_
            refine k_wide (k := 32 + (it + 1) + 2 * tc) (n := 60166 + 14 * (it + 1) + 490 * tc) (by omega) (by omega) ?_
            exact ih18 W2 (if (blw (xs ((6 * it) + 1)) (nI 9) && blw (xs ((6 * it) + 2)) (nI ne) && ((xs ((6 * it) + 1)) == 8 || blw (xs ((6 * it) + 3)) (nI ne)) && !decide (ne = 30)) = true then (T, va_up E ne (tn (xs ((6 * it) + 1)), (xs ((6 * it) + 2)), (xs ((6 * it) + 3))), ne + 1, qk, nv, nn, L0) else (T, E, ne, qk, nv, nn, L0)) tc (it + 1) (by omega)  (by omega) hF2 hM2
          · skip
            exact absurd rfl c252
        · skip
          refine k_val (y := nI 3) (by rw [sw33]) ?_
          refine k_tableIn (tgt := 257) C dL_law_33 (by decide) (by decide) rfl (by decide) ?_
          refine k_aload_n C dL_law_257 rfl 2 rfl ?_
          refine k_aload_n C dL_law_258 rfl 1 rfl ?_
          refine k_iload_n C dL_law_259 rfl 0 rfl ?_
          refine k_iconst (v := nI 1) C dL_law_260 rfl ?_
          refine k_iadd C dL_law_261 ?_
          refine k_val (y := nI ((6 * it) + 1)) (nI_add (6 * it) 1) ?_
          refine k_sld (v := xs ((6 * it) + 1)) C hX hbl hbA (vp_in_nI (by omega) (by omega)) (by rw [nI_clamp (by omega)]) dL_law_262 ?_
          refine k_aload_n C dL_law_263 rfl 1 rfl ?_
          refine k_iload_n C dL_law_264 rfl 0 rfl ?_
          refine k_iconst (v := nI 2) C dL_law_265 rfl ?_
          refine k_iadd C dL_law_266 ?_
          refine k_val (y := nI ((6 * it) + 2)) (nI_add (6 * it) 2) ?_
          refine k_sld (v := xs ((6 * it) + 2)) C hX hbl hbA (vp_in_nI (by omega) (by omega)) (by rw [nI_clamp (by omega)]) dL_law_267 ?_
          refine k_aload_n C dL_law_268 rfl 1 rfl ?_
          refine k_iload_n C dL_law_269 rfl 0 rfl ?_
          refine k_iconst (v := nI 3) C dL_law_270 rfl ?_
          refine k_iadd C dL_law_271 ?_
          refine k_val (y := nI ((6 * it) + 3)) (nI_add (6 * it) 3) ?_
          refine k_sld (v := xs ((6 * it) + 3)) C hX hbl hbA (vp_in_nI (by omega) (by omega)) (by rw [nI_clamp (by omega)]) dL_law_272 ?_
          obtain ⟨obf, h_ob⟩ := FC.obj hF
          refine k_callV C mv_L_28 (hz_pattern (x := xs ((6 * it) + 1)) (y := xs ((6 * it) + 2)) (z := xs ((6 * it) + 3)) hF) h_ob rfl rfl (by simp [Value.category]) ⟨Nat.le_of_ble_eq_true rfl, Nat.le_of_ble_eq_true rfl⟩ ⟨(Nat.le_trans (show 32 + it + 2 * tc + 1 ≤ 784 by omega) (Nat.le_of_ble_eq_true rfl)), (Nat.le_trans (show 60166 + 14 * it + 490 * tc + 14 ≤ 126134 by omega) (Nat.le_of_ble_eq_true rfl))⟩ dL_law_273 (fun zv W1 zh => ?_)
          obtain ⟨rfl, hF1, hfr1⟩ := zh
          have hM1 : MZ cI W1 m wt wa wv wm wr wc wn ws wk wp (T, E, ne, qk, nv, nn, L0) := ls1 hM hfr1
          obtain ⟨mbf, h_mb⟩ := MC.ob hM1
          refine k_pc (pc' := 276) (st' := [.int (if (!decide (nn = 30) && plc (xs ((6 * it) + 1)) && plc (xs ((6 * it) + 2)) && plc (xs ((6 * it) + 3))) = true then nI nn else -1)]) rfl rfl ?_
          refine k_aload_n C dL_law_276 rfl 3 rfl ?_
          refine k_aload_n C dL_law_277 rfl 1 rfl ?_
          refine k_iload_n C dL_law_278 rfl 0 rfl ?_
          refine k_iconst (v := nI 1) C dL_law_279 rfl ?_
          refine k_iadd C dL_law_280 ?_
          refine k_val (y := nI ((6 * it) + 1)) (nI_add (6 * it) 1) ?_
          refine k_sld (v := xs ((6 * it) + 1)) C hX hbl hbA (vp_in_nI (by omega) (by omega)) (by rw [nI_clamp (by omega)]) dL_law_281 ?_
          refine k_aload_n C dL_law_282 rfl 1 rfl ?_
          refine k_iload_n C dL_law_283 rfl 0 rfl ?_
          refine k_iconst (v := nI 2) C dL_law_284 rfl ?_
          refine k_iadd C dL_law_285 ?_
          refine k_val (y := nI ((6 * it) + 2)) (nI_add (6 * it) 2) ?_
          refine k_sld (v := xs ((6 * it) + 2)) C hX hbl hbA (vp_in_nI (by omega) (by omega)) (by rw [nI_clamp (by omega)]) dL_law_286 ?_
          refine k_aload_n C dL_law_287 rfl 1 rfl ?_
          refine k_iload_n C dL_law_288 rfl 0 rfl ?_
          refine k_iconst (v := nI 3) C dL_law_289 rfl ?_
          refine k_iadd C dL_law_290 ?_
          refine k_val (y := nI ((6 * it) + 3)) (nI_add (6 * it) 3) ?_
          refine k_sld (v := xs ((6 * it) + 3)) C hX hbl hbA (vp_in_nI (by omega) (by omega)) (by rw [nI_clamp (by omega)]) dL_law_291 ?_
          refine k_callV C mv_L_31 (gz_pattern (x := xs ((6 * it) + 1)) (y := xs ((6 * it) + 2)) (z := xs ((6 * it) + 3)) hM1) h_mb rfl rfl (by simp [Value.category]) ⟨Nat.le_of_ble_eq_true rfl, Nat.le_of_ble_eq_true rfl⟩ ⟨(Nat.le_trans (show 32 + it + 2 * tc + 1 + 0 ≤ 784 by omega) (Nat.le_of_ble_eq_true rfl)), (Nat.le_trans (show 60166 + 14 * it + 490 * tc + 14 + 0 ≤ 126134 by omega) (Nat.le_of_ble_eq_true rfl))⟩ dL_law_292 (fun zv W2 zh => ?_)
          obtain ⟨rfl, hM2, hfr2⟩ := zh
          have hF2 := ls2 hF1 hM2 hfr2 hob
          refine k_pc (pc' := 295) (st' := [.int (if (!decide (nn = 30) && plc (xs ((6 * it) + 1)) && plc (xs ((6 * it) + 2)) && plc (xs ((6 * it) + 3))) = true then nI nn else -1), .int (if (!decide (nn = 30) && plc (xs ((6 * it) + 1)) && plc (xs ((6 * it) + 2)) && plc (xs ((6 * it) + 3))) = true then nI nn else -1)]) rfl rfl ?_
          refine k_icmp_eq (tgt := 894) C dL_law_295 (by decide) (fun c295 => ?_) (fun c295 => ?_)
          · skip
            refine k_iinc (v := nI ((6 * it) + 6)) (lv' := [(3, .int (nI ((6 * it) + 6))), (0, .ref b), (1, .ref ob), (2, .ref m)]) C dL_law_894 (k := 0) rfl (nI_add (6 * it) 6) (by decide) rfl ?_
            refine k_goto (tgt := 18) C dL_law_897 (by decide) ?_
            refine k_lve (lv' := [(3, .int (nI (6 * (it + 1)))), (0, .ref b), (1, .ref ob), (2, .ref m)]) (by rw [show (6 * it) + 6 = 6 * (it + 1) by omega]) ?_
            refine k_wide (k := 32 + (it + 1) + 2 * tc) (n := 60166 + 14 * (it + 1) + 490 * tc) (by omega) (by omega) ?_
            exact ih18 W2 (if (!decide (nn = 30) && plc (xs ((6 * it) + 1)) && plc (xs ((6 * it) + 2)) && plc (xs ((6 * it) + 3))) = true then (T, E, ne, va_up qk nn (0), va_up nv nn (uL [0, (-1 : Int32), (-1 : Int32), (xs ((6 * it) + 1)), (xs ((6 * it) + 2)), (xs ((6 * it) + 3)), 0, 0, 0, 0, 0, 0, 0, 0]), nn + 1, L0) else (T, E, ne, qk, nv, nn, L0)) tc (it + 1) (by omega)  (by omega) hF2 hM2
          · skip
            exact absurd rfl c295
        · skip
          refine k_val (y := nI 4) (by rw [sw33]) ?_
          refine k_tableIn (tgt := 300) C dL_law_33 (by decide) (by decide) rfl (by decide) ?_
          refine k_aload_n C dL_law_300 rfl 2 rfl ?_
          refine k_aload_n C dL_law_301 rfl 1 rfl ?_
          refine k_iload_n C dL_law_302 rfl 0 rfl ?_
          refine k_iconst (v := nI 1) C dL_law_303 rfl ?_
          refine k_iadd C dL_law_304 ?_
          refine k_val (y := nI ((6 * it) + 1)) (nI_add (6 * it) 1) ?_
          refine k_sld (v := xs ((6 * it) + 1)) C hX hbl hbA (vp_in_nI (by omega) (by omega)) (by rw [nI_clamp (by omega)]) dL_law_305 ?_
          refine k_aload_n C dL_law_306 rfl 1 rfl ?_
          refine k_iload_n C dL_law_307 rfl 0 rfl ?_
          refine k_iconst (v := nI 2) C dL_law_308 rfl ?_
          refine k_iadd C dL_law_309 ?_
          refine k_val (y := nI ((6 * it) + 2)) (nI_add (6 * it) 2) ?_
          refine k_sld (v := xs ((6 * it) + 2)) C hX hbl hbA (vp_in_nI (by omega) (by omega)) (by rw [nI_clamp (by omega)]) dL_law_310 ?_
          refine k_aload_n C dL_law_311 rfl 1 rfl ?_
          refine k_iload_n C dL_law_312 rfl 0 rfl ?_
          refine k_iconst (v := nI 3) C dL_law_313 rfl ?_
          refine k_iadd C dL_law_314 ?_
          refine k_val (y := nI ((6 * it) + 3)) (nI_add (6 * it) 3) ?_
          refine k_sld (v := xs ((6 * it) + 3)) C hX hbl hbA (vp_in_nI (by omega) (by omega)) (by rw [nI_clamp (by omega)]) dL_law_315 ?_
          obtain ⟨obf, h_ob⟩ := FC.obj hF
          refine k_callV C mv_L_32 (hz_both (x := xs ((6 * it) + 1)) (y := xs ((6 * it) + 2)) (z := xs ((6 * it) + 3)) hF) h_ob rfl rfl (by simp [Value.category]) ⟨Nat.le_of_ble_eq_true rfl, Nat.le_of_ble_eq_true rfl⟩ ⟨(Nat.le_trans (show 32 + it + 2 * tc + 1 ≤ 784 by omega) (Nat.le_of_ble_eq_true rfl)), (Nat.le_trans (show 60166 + 14 * it + 490 * tc + 14 ≤ 126134 by omega) (Nat.le_of_ble_eq_true rfl))⟩ dL_law_316 (fun zv W1 zh => ?_)
          obtain ⟨rfl, hF1, hfr1⟩ := zh
          have hM1 : MZ cI W1 m wt wa wv wm wr wc wn ws wk wp (T, E, ne, qk, nv, nn, L0) := ls1 hM hfr1
          obtain ⟨mbf, h_mb⟩ := MC.ob hM1
          refine k_pc (pc' := 319) (st' := [.int (if (blw (xs ((6 * it) + 1)) (nI 3) && (!decide (nn = 30) && blw (xs ((6 * it) + 2)) (nI nn)) && blw (xs ((6 * it) + 3)) (nI nn)) = true then nI nn else -1)]) rfl rfl ?_
          refine k_aload_n C dL_law_319 rfl 3 rfl ?_
          refine k_aload_n C dL_law_320 rfl 1 rfl ?_
          refine k_iload_n C dL_law_321 rfl 0 rfl ?_
          refine k_iconst (v := nI 1) C dL_law_322 rfl ?_
          refine k_iadd C dL_law_323 ?_
          refine k_val (y := nI ((6 * it) + 1)) (nI_add (6 * it) 1) ?_
          refine k_sld (v := xs ((6 * it) + 1)) C hX hbl hbA (vp_in_nI (by omega) (by omega)) (by rw [nI_clamp (by omega)]) dL_law_324 ?_
          refine k_aload_n C dL_law_325 rfl 1 rfl ?_
          refine k_iload_n C dL_law_326 rfl 0 rfl ?_
          refine k_iconst (v := nI 2) C dL_law_327 rfl ?_
          refine k_iadd C dL_law_328 ?_
          refine k_val (y := nI ((6 * it) + 2)) (nI_add (6 * it) 2) ?_
          refine k_sld (v := xs ((6 * it) + 2)) C hX hbl hbA (vp_in_nI (by omega) (by omega)) (by rw [nI_clamp (by omega)]) dL_law_329 ?_
          refine k_aload_n C dL_law_330 rfl 1 rfl ?_
          refine k_iload_n C dL_law_331 rfl 0 rfl ?_
          refine k_iconst (v := nI 3) C dL_law_332 rfl ?_
          refine k_iadd C dL_law_333 ?_
          refine k_val (y := nI ((6 * it) + 3)) (nI_add (6 * it) 3) ?_
          refine k_sld (v := xs ((6 * it) + 3)) C hX hbl hbA (vp_in_nI (by omega) (by omega)) (by rw [nI_clamp (by omega)]) dL_law_334 ?_
          refine k_callV C mv_L_35 (gz_both (x := xs ((6 * it) + 1)) (y := xs ((6 * it) + 2)) (z := xs ((6 * it) + 3)) hM1) h_mb rfl rfl (by simp [Value.category]) ⟨Nat.le_of_ble_eq_true rfl, Nat.le_of_ble_eq_true rfl⟩ ⟨(Nat.le_trans (show 32 + it + 2 * tc + 1 + 0 ≤ 784 by omega) (Nat.le_of_ble_eq_true rfl)), (Nat.le_trans (show 60166 + 14 * it + 490 * tc + 14 + 0 ≤ 126134 by omega) (Nat.le_of_ble_eq_true rfl))⟩ dL_law_335 (fun zv W2 zh => ?_)
          obtain ⟨rfl, hM2, hfr2⟩ := zh
          have hF2 := ls2 hF1 hM2 hfr2 hob
          refine k_pc (pc' := 338) (st' := [.int (if (blw (xs ((6 * it) + 1)) (nI 3) && (!decide (nn = 30) && blw (xs ((6 * it) + 2)) (nI nn)) && blw (xs ((6 * it) + 3)) (nI nn)) = true then nI nn else -1), .int (if (blw (xs ((6 * it) + 1)) (nI 3) && (!decide (nn = 30) && blw (xs ((6 * it) + 2)) (nI nn)) && blw (xs ((6 * it) + 3)) (nI nn)) = true then nI nn else -1)]) rfl rfl ?_
          refine k_icmp_eq (tgt := 894) C dL_law_338 (by decide) (fun c338 => ?_) (fun c338 => ?_)
          · skip
            refine k_iinc (v := nI ((6 * it) + 6)) (lv' := [(3, .int (nI ((6 * it) + 6))), (0, .ref b), (1, .ref ob), (2, .ref m)]) C dL_law_894 (k := 0) rfl (nI_add (6 * it) 6) (by decide) rfl ?_
            refine k_goto (tgt := 18) C dL_law_897 (by decide) ?_
            refine k_lve (lv' := [(3, .int (nI (6 * (it + 1)))), (0, .ref b), (1, .ref ob), (2, .ref m)]) (by rw [show (6 * it) + 6 = 6 * (it + 1) by omega]) ?_
            refine k_wide (k := 32 + (it + 1) + 2 * tc) (n := 60166 + 14 * (it + 1) + 490 * tc) (by omega) (by omega) ?_
            exact ih18 W2 (if (blw (xs ((6 * it) + 1)) (nI 3) && (!decide (nn = 30) && blw (xs ((6 * it) + 2)) (nI nn)) && blw (xs ((6 * it) + 3)) (nI nn)) = true then (T, E, ne, va_up qk nn (1 + tn (xs ((6 * it) + 1))), va_up nv nn (uL [0, (xs ((6 * it) + 2)), (xs ((6 * it) + 3)), 0, 0, 0, 0, 0, 0, 0, 0, 0, 0, 0]), nn + 1, L0) else (T, E, ne, qk, nv, nn, L0)) tc (it + 1) (by omega)  (by omega) hF2 hM2
          · skip
            exact absurd rfl c338
        · skip
          refine k_val (y := nI 5) (by rw [sw33]) ?_
          refine k_tableIn (tgt := 343) C dL_law_33 (by decide) (by decide) rfl (by decide) ?_
          refine k_aload_n C dL_law_343 rfl 2 rfl ?_
          refine k_aload_n C dL_law_344 rfl 1 rfl ?_
          refine k_iload_n C dL_law_345 rfl 0 rfl ?_
          refine k_iconst (v := nI 1) C dL_law_346 rfl ?_
          refine k_iadd C dL_law_347 ?_
          refine k_val (y := nI ((6 * it) + 1)) (nI_add (6 * it) 1) ?_
          refine k_sld (v := xs ((6 * it) + 1)) C hX hbl hbA (vp_in_nI (by omega) (by omega)) (by rw [nI_clamp (by omega)]) dL_law_348 ?_
          refine k_aload_n C dL_law_349 rfl 1 rfl ?_
          refine k_iload_n C dL_law_350 rfl 0 rfl ?_
          refine k_iconst (v := nI 2) C dL_law_351 rfl ?_
          refine k_iadd C dL_law_352 ?_
          refine k_val (y := nI ((6 * it) + 2)) (nI_add (6 * it) 2) ?_
          refine k_sld (v := xs ((6 * it) + 2)) C hX hbl hbA (vp_in_nI (by omega) (by omega)) (by rw [nI_clamp (by omega)]) dL_law_353 ?_
          refine k_aload_n C dL_law_354 rfl 1 rfl ?_
          refine k_iload_n C dL_law_355 rfl 0 rfl ?_
          refine k_iconst (v := nI 3) C dL_law_356 rfl ?_
          refine k_iadd C dL_law_357 ?_
          refine k_val (y := nI ((6 * it) + 3)) (nI_add (6 * it) 3) ?_
          refine k_sld (v := xs ((6 * it) + 3)) C hX hbl hbA (vp_in_nI (by omega) (by omega)) (by rw [nI_clamp (by omega)]) dL_law_358 ?_
          obtain ⟨obf, h_ob⟩ := FC.obj hF
          refine k_callV C mv_L_36 (hz_left (y := xs ((6 * it) + 1)) (z := xs ((6 * it) + 2)) (w := xs ((6 * it) + 3)) hF) h_ob rfl rfl (by simp [Value.category]) ⟨Nat.le_of_ble_eq_true rfl, Nat.le_of_ble_eq_true rfl⟩ ⟨(Nat.le_trans (show 32 + it + 2 * tc + 1 ≤ 784 by omega) (Nat.le_of_ble_eq_true rfl)), (Nat.le_trans (show 60166 + 14 * it + 490 * tc + 14 ≤ 126134 by omega) (Nat.le_of_ble_eq_true rfl))⟩ dL_law_359 (fun zv W1 zh => ?_)
          obtain ⟨rfl, hF1, hfr1⟩ := zh
          have hM1 : MZ cI W1 m wt wa wv wm wr wc wn ws wk wp (T, E, ne, qk, nv, nn, L0) := ls1 hM hfr1
          obtain ⟨mbf, h_mb⟩ := MC.ob hM1
          refine k_pc (pc' := 362) (st' := [.int (if ((!decide (nn = 30) && blw (xs ((6 * it) + 1)) (nI nn)) && blw (xs ((6 * it) + 2)) (nI nn) && ((xs ((6 * it) + 3)) == -1 || blw (xs ((6 * it) + 3)) (nI ne))) = true then nI nn else -1)]) rfl rfl ?_
          refine k_aload_n C dL_law_362 rfl 3 rfl ?_
          refine k_aload_n C dL_law_363 rfl 1 rfl ?_
          refine k_iload_n C dL_law_364 rfl 0 rfl ?_
          refine k_iconst (v := nI 1) C dL_law_365 rfl ?_
          refine k_iadd C dL_law_366 ?_
          refine k_val (y := nI ((6 * it) + 1)) (nI_add (6 * it) 1) ?_
          refine k_sld (v := xs ((6 * it) + 1)) C hX hbl hbA (vp_in_nI (by omega) (by omega)) (by rw [nI_clamp (by omega)]) dL_law_367 ?_
          refine k_aload_n C dL_law_368 rfl 1 rfl ?_
          refine k_iload_n C dL_law_369 rfl 0 rfl ?_
          refine k_iconst (v := nI 2) C dL_law_370 rfl ?_
          refine k_iadd C dL_law_371 ?_
          refine k_val (y := nI ((6 * it) + 2)) (nI_add (6 * it) 2) ?_
          refine k_sld (v := xs ((6 * it) + 2)) C hX hbl hbA (vp_in_nI (by omega) (by omega)) (by rw [nI_clamp (by omega)]) dL_law_372 ?_
          refine k_aload_n C dL_law_373 rfl 1 rfl ?_
          refine k_iload_n C dL_law_374 rfl 0 rfl ?_
          refine k_iconst (v := nI 3) C dL_law_375 rfl ?_
          refine k_iadd C dL_law_376 ?_
          refine k_val (y := nI ((6 * it) + 3)) (nI_add (6 * it) 3) ?_
          refine k_sld (v := xs ((6 * it) + 3)) C hX hbl hbA (vp_in_nI (by omega) (by omega)) (by rw [nI_clamp (by omega)]) dL_law_377 ?_
          refine k_callV C mv_L_39 (gz_left (y := xs ((6 * it) + 1)) (z := xs ((6 * it) + 2)) (w := xs ((6 * it) + 3)) hM1) h_mb rfl rfl (by simp [Value.category]) ⟨Nat.le_of_ble_eq_true rfl, Nat.le_of_ble_eq_true rfl⟩ ⟨(Nat.le_trans (show 32 + it + 2 * tc + 1 + 0 ≤ 784 by omega) (Nat.le_of_ble_eq_true rfl)), (Nat.le_trans (show 60166 + 14 * it + 490 * tc + 14 + 0 ≤ 126134 by omega) (Nat.le_of_ble_eq_true rfl))⟩ dL_law_378 (fun zv W2 zh => ?_)
          obtain ⟨rfl, hM2, hfr2⟩ := zh
          have hF2 := ls2 hF1 hM2 hfr2 hob
          refine k_pc (pc' := 381) (st' := [.int (if ((!decide (nn = 30) && blw (xs ((6 * it) + 1)) (nI nn)) && blw (xs ((6 * it) + 2)) (nI nn) && ((xs ((6 * it) + 3)) == -1 || blw (xs ((6 * it) + 3)) (nI ne))) = true then nI nn else -1), .int (if ((!decide (nn = 30) && blw (xs ((6 * it) + 1)) (nI nn)) && blw (xs ((6 * it) + 2)) (nI nn) && ((xs ((6 * it) + 3)) == -1 || blw (xs ((6 * it) + 3)) (nI ne))) = true then nI nn else -1)]) rfl rfl ?_
          refine k_icmp_eq (tgt := 894) C dL_law_381 (by decide) (fun c381 => ?_) (fun c381 => ?_)
          · skip
            refine k_iinc (v := nI ((6 * it) + 6)) (lv' := [(3, .int (nI ((6 * it) + 6))), (0, .ref b), (1, .ref ob), (2, .ref m)]) C dL_law_894 (k := 0) rfl (nI_add (6 * it) 6) (by decide) rfl ?_
            refine k_goto (tgt := 18) C dL_law_897 (by decide) ?_
            refine k_lve (lv' := [(3, .int (nI (6 * (it + 1)))), (0, .ref b), (1, .ref ob), (2, .ref m)]) (by rw [show (6 * it) + 6 = 6 * (it + 1) by omega]) ?_
            refine k_wide (k := 32 + (it + 1) + 2 * tc) (n := 60166 + 14 * (it + 1) + 490 * tc) (by omega) (by omega) ?_
            exact ih18 W2 (if ((!decide (nn = 30) && blw (xs ((6 * it) + 1)) (nI nn)) && blw (xs ((6 * it) + 2)) (nI nn) && ((xs ((6 * it) + 3)) == -1 || blw (xs ((6 * it) + 3)) (nI ne))) = true then (T, E, ne, va_up qk nn (4), va_up nv nn (uL [0, (xs ((6 * it) + 1)), (xs ((6 * it) + 2)), 0, 0, 0, (xs ((6 * it) + 3)), 0, 0, 0, 0, 0, 0, 0]), nn + 1, L0) else (T, E, ne, qk, nv, nn, L0)) tc (it + 1) (by omega)  (by omega) hF2 hM2
          · skip
            exact absurd rfl c381
        · skip
          refine k_val (y := nI 6) (by rw [sw33]) ?_
          refine k_tableIn (tgt := 386) C dL_law_33 (by decide) (by decide) rfl (by decide) ?_
          refine k_aload_n C dL_law_386 rfl 2 rfl ?_
          refine k_aload_n C dL_law_387 rfl 1 rfl ?_
          refine k_iload_n C dL_law_388 rfl 0 rfl ?_
          refine k_iconst (v := nI 1) C dL_law_389 rfl ?_
          refine k_iadd C dL_law_390 ?_
          refine k_val (y := nI ((6 * it) + 1)) (nI_add (6 * it) 1) ?_
          refine k_sld (v := xs ((6 * it) + 1)) C hX hbl hbA (vp_in_nI (by omega) (by omega)) (by rw [nI_clamp (by omega)]) dL_law_391 ?_
          refine k_aload_n C dL_law_392 rfl 1 rfl ?_
          refine k_iload_n C dL_law_393 rfl 0 rfl ?_
          refine k_iconst (v := nI 2) C dL_law_394 rfl ?_
          refine k_iadd C dL_law_395 ?_
          refine k_val (y := nI ((6 * it) + 2)) (nI_add (6 * it) 2) ?_
          refine k_sld (v := xs ((6 * it) + 2)) C hX hbl hbA (vp_in_nI (by omega) (by omega)) (by rw [nI_clamp (by omega)]) dL_law_396 ?_
          obtain ⟨obf, h_ob⟩ := FC.obj hF
          refine k_callV C mv_L_40 (hz_filter (y := xs ((6 * it) + 1)) (w := xs ((6 * it) + 2)) hF) h_ob rfl rfl (by simp [Value.category]) ⟨Nat.le_of_ble_eq_true rfl, Nat.le_of_ble_eq_true rfl⟩ ⟨(Nat.le_trans (show 32 + it + 2 * tc + 1 ≤ 784 by omega) (Nat.le_of_ble_eq_true rfl)), (Nat.le_trans (show 60166 + 14 * it + 490 * tc + 14 ≤ 126134 by omega) (Nat.le_of_ble_eq_true rfl))⟩ dL_law_397 (fun zv W1 zh => ?_)
          obtain ⟨rfl, hF1, hfr1⟩ := zh
          have hM1 : MZ cI W1 m wt wa wv wm wr wc wn ws wk wp (T, E, ne, qk, nv, nn, L0) := ls1 hM hfr1
          obtain ⟨mbf, h_mb⟩ := MC.ob hM1
          refine k_pc (pc' := 400) (st' := [.int (if ((!decide (nn = 30) && blw (xs ((6 * it) + 1)) (nI nn)) && blw (xs ((6 * it) + 2)) (nI ne)) = true then nI nn else -1)]) rfl rfl ?_
          refine k_aload_n C dL_law_400 rfl 3 rfl ?_
          refine k_aload_n C dL_law_401 rfl 1 rfl ?_
          refine k_iload_n C dL_law_402 rfl 0 rfl ?_
          refine k_iconst (v := nI 1) C dL_law_403 rfl ?_
          refine k_iadd C dL_law_404 ?_
          refine k_val (y := nI ((6 * it) + 1)) (nI_add (6 * it) 1) ?_
          refine k_sld (v := xs ((6 * it) + 1)) C hX hbl hbA (vp_in_nI (by omega) (by omega)) (by rw [nI_clamp (by omega)]) dL_law_405 ?_
          refine k_aload_n C dL_law_406 rfl 1 rfl ?_
          refine k_iload_n C dL_law_407 rfl 0 rfl ?_
          refine k_iconst (v := nI 2) C dL_law_408 rfl ?_
          refine k_iadd C dL_law_409 ?_
          refine k_val (y := nI ((6 * it) + 2)) (nI_add (6 * it) 2) ?_
          refine k_sld (v := xs ((6 * it) + 2)) C hX hbl hbA (vp_in_nI (by omega) (by omega)) (by rw [nI_clamp (by omega)]) dL_law_410 ?_
          refine k_callV C mv_L_43 (gz_filter (y := xs ((6 * it) + 1)) (w := xs ((6 * it) + 2)) hM1) h_mb rfl rfl (by simp [Value.category]) ⟨Nat.le_of_ble_eq_true rfl, Nat.le_of_ble_eq_true rfl⟩ ⟨(Nat.le_trans (show 32 + it + 2 * tc + 1 + 0 ≤ 784 by omega) (Nat.le_of_ble_eq_true rfl)), (Nat.le_trans (show 60166 + 14 * it + 490 * tc + 14 + 0 ≤ 126134 by omega) (Nat.le_of_ble_eq_true rfl))⟩ dL_law_411 (fun zv W2 zh => ?_)
          obtain ⟨rfl, hM2, hfr2⟩ := zh
          have hF2 := ls2 hF1 hM2 hfr2 hob
          refine k_pc (pc' := 414) (st' := [.int (if ((!decide (nn = 30) && blw (xs ((6 * it) + 1)) (nI nn)) && blw (xs ((6 * it) + 2)) (nI ne)) = true then nI nn else -1), .int (if ((!decide (nn = 30) && blw (xs ((6 * it) + 1)) (nI nn)) && blw (xs ((6 * it) + 2)) (nI ne)) = true then nI nn else -1)]) rfl rfl ?_
          refine k_icmp_eq (tgt := 894) C dL_law_414 (by decide) (fun c414 => ?_) (fun c414 => ?_)
          · skip
            refine k_iinc (v := nI ((6 * it) + 6)) (lv' := [(3, .int (nI ((6 * it) + 6))), (0, .ref b), (1, .ref ob), (2, .ref m)]) C dL_law_894 (k := 0) rfl (nI_add (6 * it) 6) (by decide) rfl ?_
            refine k_goto (tgt := 18) C dL_law_897 (by decide) ?_
            refine k_lve (lv' := [(3, .int (nI (6 * (it + 1)))), (0, .ref b), (1, .ref ob), (2, .ref m)]) (by rw [show (6 * it) + 6 = 6 * (it + 1) by omega]) ?_
            refine k_wide (k := 32 + (it + 1) + 2 * tc) (n := 60166 + 14 * (it + 1) + 490 * tc) (by omega) (by omega) ?_
            exact ih18 W2 (if ((!decide (nn = 30) && blw (xs ((6 * it) + 1)) (nI nn)) && blw (xs ((6 * it) + 2)) (nI ne)) = true then (T, E, ne, va_up qk nn (5), va_up nv nn (uL [0, (xs ((6 * it) + 1)), (-1 : Int32), 0, 0, 0, (xs ((6 * it) + 2)), 0, 0, 0, 0, 0, 0, 0]), nn + 1, L0) else (T, E, ne, qk, nv, nn, L0)) tc (it + 1) (by omega)  (by omega) hF2 hM2
          · skip
            exact absurd rfl c414
        · skip
          refine k_val (y := nI 7) (by rw [sw33]) ?_
          refine k_tableIn (tgt := 419) C dL_law_33 (by decide) (by decide) rfl (by decide) ?_
          refine k_aload_n C dL_law_419 rfl 2 rfl ?_
          refine k_aload_n C dL_law_420 rfl 1 rfl ?_
          refine k_iload_n C dL_law_421 rfl 0 rfl ?_
          refine k_iconst (v := nI 1) C dL_law_422 rfl ?_
          refine k_iadd C dL_law_423 ?_
          refine k_val (y := nI ((6 * it) + 1)) (nI_add (6 * it) 1) ?_
          refine k_sld (v := xs ((6 * it) + 1)) C hX hbl hbA (vp_in_nI (by omega) (by omega)) (by rw [nI_clamp (by omega)]) dL_law_424 ?_
          refine k_aload_n C dL_law_425 rfl 1 rfl ?_
          refine k_iload_n C dL_law_426 rfl 0 rfl ?_
          refine k_iconst (v := nI 2) C dL_law_427 rfl ?_
          refine k_iadd C dL_law_428 ?_
          refine k_val (y := nI ((6 * it) + 2)) (nI_add (6 * it) 2) ?_
          refine k_sld (v := xs ((6 * it) + 2)) C hX hbl hbA (vp_in_nI (by omega) (by omega)) (by rw [nI_clamp (by omega)]) dL_law_429 ?_
          refine k_aload_n C dL_law_430 rfl 1 rfl ?_
          refine k_iload_n C dL_law_431 rfl 0 rfl ?_
          refine k_iconst (v := nI 3) C dL_law_432 rfl ?_
          refine k_iadd C dL_law_433 ?_
          refine k_val (y := nI ((6 * it) + 3)) (nI_add (6 * it) 3) ?_
          refine k_sld (v := xs ((6 * it) + 3)) C hX hbl hbA (vp_in_nI (by omega) (by omega)) (by rw [nI_clamp (by omega)]) dL_law_434 ?_
          obtain ⟨obf, h_ob⟩ := FC.obj hF
          refine k_callV C mv_L_44 (hz_extend (y := xs ((6 * it) + 1)) (x := xs ((6 * it) + 2)) (w := xs ((6 * it) + 3)) hF) h_ob rfl rfl (by simp [Value.category]) ⟨Nat.le_of_ble_eq_true rfl, Nat.le_of_ble_eq_true rfl⟩ ⟨(Nat.le_trans (show 32 + it + 2 * tc + 1 ≤ 784 by omega) (Nat.le_of_ble_eq_true rfl)), (Nat.le_trans (show 60166 + 14 * it + 490 * tc + 14 ≤ 126134 by omega) (Nat.le_of_ble_eq_true rfl))⟩ dL_law_435 (fun zv W1 zh => ?_)
          obtain ⟨rfl, hF1, hfr1⟩ := zh
          have hM1 : MZ cI W1 m wt wa wv wm wr wc wn ws wk wp (T, E, ne, qk, nv, nn, L0) := ls1 hM hfr1
          obtain ⟨mbf, h_mb⟩ := MC.ob hM1
          refine k_pc (pc' := 438) (st' := [.int (if ((!decide (nn = 30) && blw (xs ((6 * it) + 1)) (nI nn)) && blw (xs ((6 * it) + 2)) (nI 6) && blw (xs ((6 * it) + 3)) (nI ne)) = true then nI nn else -1)]) rfl rfl ?_
          refine k_aload_n C dL_law_438 rfl 3 rfl ?_
          refine k_aload_n C dL_law_439 rfl 1 rfl ?_
          refine k_iload_n C dL_law_440 rfl 0 rfl ?_
          refine k_iconst (v := nI 1) C dL_law_441 rfl ?_
          refine k_iadd C dL_law_442 ?_
          refine k_val (y := nI ((6 * it) + 1)) (nI_add (6 * it) 1) ?_
          refine k_sld (v := xs ((6 * it) + 1)) C hX hbl hbA (vp_in_nI (by omega) (by omega)) (by rw [nI_clamp (by omega)]) dL_law_443 ?_
          refine k_aload_n C dL_law_444 rfl 1 rfl ?_
          refine k_iload_n C dL_law_445 rfl 0 rfl ?_
          refine k_iconst (v := nI 2) C dL_law_446 rfl ?_
          refine k_iadd C dL_law_447 ?_
          refine k_val (y := nI ((6 * it) + 2)) (nI_add (6 * it) 2) ?_
          refine k_sld (v := xs ((6 * it) + 2)) C hX hbl hbA (vp_in_nI (by omega) (by omega)) (by rw [nI_clamp (by omega)]) dL_law_448 ?_
          refine k_aload_n C dL_law_449 rfl 1 rfl ?_
          refine k_iload_n C dL_law_450 rfl 0 rfl ?_
          refine k_iconst (v := nI 3) C dL_law_451 rfl ?_
          refine k_iadd C dL_law_452 ?_
          refine k_val (y := nI ((6 * it) + 3)) (nI_add (6 * it) 3) ?_
          refine k_sld (v := xs ((6 * it) + 3)) C hX hbl hbA (vp_in_nI (by omega) (by omega)) (by rw [nI_clamp (by omega)]) dL_law_453 ?_
          refine k_callV C mv_L_47 (gz_extend (y := xs ((6 * it) + 1)) (x := xs ((6 * it) + 2)) (w := xs ((6 * it) + 3)) hM1) h_mb rfl rfl (by simp [Value.category]) ⟨Nat.le_of_ble_eq_true rfl, Nat.le_of_ble_eq_true rfl⟩ ⟨(Nat.le_trans (show 32 + it + 2 * tc + 1 + 0 ≤ 784 by omega) (Nat.le_of_ble_eq_true rfl)), (Nat.le_trans (show 60166 + 14 * it + 490 * tc + 14 + 0 ≤ 126134 by omega) (Nat.le_of_ble_eq_true rfl))⟩ dL_law_454 (fun zv W2 zh => ?_)
          obtain ⟨rfl, hM2, hfr2⟩ := zh
          have hF2 := ls2 hF1 hM2 hfr2 hob
          refine k_pc (pc' := 457) (st' := [.int (if ((!decide (nn = 30) && blw (xs ((6 * it) + 1)) (nI nn)) && blw (xs ((6 * it) + 2)) (nI 6) && blw (xs ((6 * it) + 3)) (nI ne)) = true then nI nn else -1), .int (if ((!decide (nn = 30) && blw (xs ((6 * it) + 1)) (nI nn)) && blw (xs ((6 * it) + 2)) (nI 6) && blw (xs ((6 * it) + 3)) (nI ne)) = true then nI nn else -1)]) rfl rfl ?_
          refine k_icmp_eq (tgt := 894) C dL_law_457 (by decide) (fun c457 => ?_) (fun c457 => ?_)
          · skip
            refine k_iinc (v := nI ((6 * it) + 6)) (lv' := [(3, .int (nI ((6 * it) + 6))), (0, .ref b), (1, .ref ob), (2, .ref m)]) C dL_law_894 (k := 0) rfl (nI_add (6 * it) 6) (by decide) rfl ?_
            refine k_goto (tgt := 18) C dL_law_897 (by decide) ?_
            refine k_lve (lv' := [(3, .int (nI (6 * (it + 1)))), (0, .ref b), (1, .ref ob), (2, .ref m)]) (by rw [show (6 * it) + 6 = 6 * (it + 1) by omega]) ?_
            refine k_wide (k := 32 + (it + 1) + 2 * tc) (n := 60166 + 14 * (it + 1) + 490 * tc) (by omega) (by omega) ?_
            exact ih18 W2 (if ((!decide (nn = 30) && blw (xs ((6 * it) + 1)) (nI nn)) && blw (xs ((6 * it) + 2)) (nI 6) && blw (xs ((6 * it) + 3)) (nI ne)) = true then (T, E, ne, va_up qk nn (6), va_up nv nn (uL [0, (xs ((6 * it) + 1)), (-1 : Int32), 0, 0, 0, (xs ((6 * it) + 3)), (xs ((6 * it) + 2)), 0, 0, 0, 0, 0, 0]), nn + 1, L0) else (T, E, ne, qk, nv, nn, L0)) tc (it + 1) (by omega)  (by omega) hF2 hM2
          · skip
            exact absurd rfl c457
        · skip
          refine k_val (y := nI 8) (by rw [sw33]) ?_
          refine k_tableIn (tgt := 462) C dL_law_33 (by decide) (by decide) rfl (by decide) ?_
          refine k_aload_n C dL_law_462 rfl 2 rfl ?_
          refine k_aload_n C dL_law_463 rfl 1 rfl ?_
          refine k_iload_n C dL_law_464 rfl 0 rfl ?_
          refine k_iconst (v := nI 1) C dL_law_465 rfl ?_
          refine k_iadd C dL_law_466 ?_
          refine k_val (y := nI ((6 * it) + 1)) (nI_add (6 * it) 1) ?_
          refine k_sld (v := xs ((6 * it) + 1)) C hX hbl hbA (vp_in_nI (by omega) (by omega)) (by rw [nI_clamp (by omega)]) dL_law_467 ?_
          refine k_aload_n C dL_law_468 rfl 1 rfl ?_
          refine k_iload_n C dL_law_469 rfl 0 rfl ?_
          refine k_iconst (v := nI 2) C dL_law_470 rfl ?_
          refine k_iadd C dL_law_471 ?_
          refine k_val (y := nI ((6 * it) + 2)) (nI_add (6 * it) 2) ?_
          refine k_sld (v := xs ((6 * it) + 2)) C hX hbl hbA (vp_in_nI (by omega) (by omega)) (by rw [nI_clamp (by omega)]) dL_law_472 ?_
          obtain ⟨obf, h_ob⟩ := FC.obj hF
          refine k_callV C mv_L_48 (hz_project (y := xs ((6 * it) + 1)) (x := xs ((6 * it) + 2)) hF) h_ob rfl rfl (by simp [Value.category]) ⟨Nat.le_of_ble_eq_true rfl, Nat.le_of_ble_eq_true rfl⟩ ⟨(Nat.le_trans (show 32 + it + 2 * tc + 1 ≤ 784 by omega) (Nat.le_of_ble_eq_true rfl)), (Nat.le_trans (show 60166 + 14 * it + 490 * tc + 14 ≤ 126134 by omega) (Nat.le_of_ble_eq_true rfl))⟩ dL_law_473 (fun zv W1 zh => ?_)
          obtain ⟨rfl, hF1, hfr1⟩ := zh
          have hM1 : MZ cI W1 m wt wa wv wm wr wc wn ws wk wp (T, E, ne, qk, nv, nn, L0) := ls1 hM hfr1
          obtain ⟨mbf, h_mb⟩ := MC.ob hM1
          refine k_pc (pc' := 476) (st' := [.int (if ((!decide (nn = 30) && blw (xs ((6 * it) + 1)) (nI nn)) && blw (xs ((6 * it) + 2)) (nI 64)) = true then nI nn else -1)]) rfl rfl ?_
          refine k_aload_n C dL_law_476 rfl 3 rfl ?_
          refine k_aload_n C dL_law_477 rfl 1 rfl ?_
          refine k_iload_n C dL_law_478 rfl 0 rfl ?_
          refine k_iconst (v := nI 1) C dL_law_479 rfl ?_
          refine k_iadd C dL_law_480 ?_
          refine k_val (y := nI ((6 * it) + 1)) (nI_add (6 * it) 1) ?_
          refine k_sld (v := xs ((6 * it) + 1)) C hX hbl hbA (vp_in_nI (by omega) (by omega)) (by rw [nI_clamp (by omega)]) dL_law_481 ?_
          refine k_aload_n C dL_law_482 rfl 1 rfl ?_
          refine k_iload_n C dL_law_483 rfl 0 rfl ?_
          refine k_iconst (v := nI 2) C dL_law_484 rfl ?_
          refine k_iadd C dL_law_485 ?_
          refine k_val (y := nI ((6 * it) + 2)) (nI_add (6 * it) 2) ?_
          refine k_sld (v := xs ((6 * it) + 2)) C hX hbl hbA (vp_in_nI (by omega) (by omega)) (by rw [nI_clamp (by omega)]) dL_law_486 ?_
          refine k_callV C mv_L_51 (gz_project (y := xs ((6 * it) + 1)) (x := xs ((6 * it) + 2)) hM1) h_mb rfl rfl (by simp [Value.category]) ⟨Nat.le_of_ble_eq_true rfl, Nat.le_of_ble_eq_true rfl⟩ ⟨(Nat.le_trans (show 32 + it + 2 * tc + 1 + 0 ≤ 784 by omega) (Nat.le_of_ble_eq_true rfl)), (Nat.le_trans (show 60166 + 14 * it + 490 * tc + 14 + 0 ≤ 126134 by omega) (Nat.le_of_ble_eq_true rfl))⟩ dL_law_487 (fun zv W2 zh => ?_)
          obtain ⟨rfl, hM2, hfr2⟩ := zh
          have hF2 := ls2 hF1 hM2 hfr2 hob
          refine k_pc (pc' := 490) (st' := [.int (if ((!decide (nn = 30) && blw (xs ((6 * it) + 1)) (nI nn)) && blw (xs ((6 * it) + 2)) (nI 64)) = true then nI nn else -1), .int (if ((!decide (nn = 30) && blw (xs ((6 * it) + 1)) (nI nn)) && blw (xs ((6 * it) + 2)) (nI 64)) = true then nI nn else -1)]) rfl rfl ?_
          refine k_icmp_eq (tgt := 894) C dL_law_490 (by decide) (fun c490 => ?_) (fun c490 => ?_)
          · skip
            refine k_iinc (v := nI ((6 * it) + 6)) (lv' := [(3, .int (nI ((6 * it) + 6))), (0, .ref b), (1, .ref ob), (2, .ref m)]) C dL_law_894 (k := 0) rfl (nI_add (6 * it) 6) (by decide) rfl ?_
            refine k_goto (tgt := 18) C dL_law_897 (by decide) ?_
            refine k_lve (lv' := [(3, .int (nI (6 * (it + 1)))), (0, .ref b), (1, .ref ob), (2, .ref m)]) (by rw [show (6 * it) + 6 = 6 * (it + 1) by omega]) ?_
            refine k_wide (k := 32 + (it + 1) + 2 * tc) (n := 60166 + 14 * (it + 1) + 490 * tc) (by omega) (by omega) ?_
            exact ih18 W2 (if ((!decide (nn = 30) && blw (xs ((6 * it) + 1)) (nI nn)) && blw (xs ((6 * it) + 2)) (nI 64)) = true then (T, E, ne, va_up qk nn (7), va_up nv nn (uL [0, (xs ((6 * it) + 1)), (-1 : Int32), 0, 0, 0, 0, 0, (xs ((6 * it) + 2)), 0, 0, 0, 0, 0]), nn + 1, L0) else (T, E, ne, qk, nv, nn, L0)) tc (it + 1) (by omega)  (by omega) hF2 hM2
          · skip
            exact absurd rfl c490
        · skip
          refine k_val (y := nI 9) (by rw [sw33]) ?_
          refine k_tableIn (tgt := 495) C dL_law_33 (by decide) (by decide) rfl (by decide) ?_
          refine k_aload_n C dL_law_495 rfl 2 rfl ?_
          refine k_aload_n C dL_law_496 rfl 1 rfl ?_
          refine k_iload_n C dL_law_497 rfl 0 rfl ?_
          refine k_iconst (v := nI 1) C dL_law_498 rfl ?_
          refine k_iadd C dL_law_499 ?_
          refine k_val (y := nI ((6 * it) + 1)) (nI_add (6 * it) 1) ?_
          refine k_sld (v := xs ((6 * it) + 1)) C hX hbl hbA (vp_in_nI (by omega) (by omega)) (by rw [nI_clamp (by omega)]) dL_law_500 ?_
          obtain ⟨obf, h_ob⟩ := FC.obj hF
          refine k_callV C mv_L_52 (hz_distinct (y := xs ((6 * it) + 1)) hF) h_ob rfl rfl (by simp [Value.category]) ⟨Nat.le_of_ble_eq_true rfl, Nat.le_of_ble_eq_true rfl⟩ ⟨(Nat.le_trans (show 32 + it + 2 * tc + 1 ≤ 784 by omega) (Nat.le_of_ble_eq_true rfl)), (Nat.le_trans (show 60166 + 14 * it + 490 * tc + 14 ≤ 126134 by omega) (Nat.le_of_ble_eq_true rfl))⟩ dL_law_501 (fun zv W1 zh => ?_)
          obtain ⟨rfl, hF1, hfr1⟩ := zh
          have hM1 : MZ cI W1 m wt wa wv wm wr wc wn ws wk wp (T, E, ne, qk, nv, nn, L0) := ls1 hM hfr1
          obtain ⟨mbf, h_mb⟩ := MC.ob hM1
          refine k_pc (pc' := 504) (st' := [.int (if (!decide (nn = 30) && blw (xs ((6 * it) + 1)) (nI nn)) = true then nI nn else -1)]) rfl rfl ?_
          refine k_aload_n C dL_law_504 rfl 3 rfl ?_
          refine k_aload_n C dL_law_505 rfl 1 rfl ?_
          refine k_iload_n C dL_law_506 rfl 0 rfl ?_
          refine k_iconst (v := nI 1) C dL_law_507 rfl ?_
          refine k_iadd C dL_law_508 ?_
          refine k_val (y := nI ((6 * it) + 1)) (nI_add (6 * it) 1) ?_
          refine k_sld (v := xs ((6 * it) + 1)) C hX hbl hbA (vp_in_nI (by omega) (by omega)) (by rw [nI_clamp (by omega)]) dL_law_509 ?_
          refine k_callV C mv_L_56 (gz_distinct (y := xs ((6 * it) + 1)) hM1) h_mb rfl rfl (by simp [Value.category]) ⟨Nat.le_of_ble_eq_true rfl, Nat.le_of_ble_eq_true rfl⟩ ⟨(Nat.le_trans (show 32 + it + 2 * tc + 1 + 0 ≤ 784 by omega) (Nat.le_of_ble_eq_true rfl)), (Nat.le_trans (show 60166 + 14 * it + 490 * tc + 14 + 0 ≤ 126134 by omega) (Nat.le_of_ble_eq_true rfl))⟩ dL_law_510 (fun zv W2 zh => ?_)
          obtain ⟨rfl, hM2, hfr2⟩ := zh
          have hF2 := ls2 hF1 hM2 hfr2 hob
          refine k_pc (pc' := 513) (st' := [.int (if (!decide (nn = 30) && blw (xs ((6 * it) + 1)) (nI nn)) = true then nI nn else -1), .int (if (!decide (nn = 30) && blw (xs ((6 * it) + 1)) (nI nn)) = true then nI nn else -1)]) rfl rfl ?_
          refine k_icmp_eq (tgt := 894) C dL_law_513 (by decide) (fun c513 => ?_) (fun c513 => ?_)
          · skip
            refine k_iinc (v := nI ((6 * it) + 6)) (lv' := [(3, .int (nI ((6 * it) + 6))), (0, .ref b), (1, .ref ob), (2, .ref m)]) C dL_law_894 (k := 0) rfl (nI_add (6 * it) 6) (by decide) rfl ?_
            refine k_goto (tgt := 18) C dL_law_897 (by decide) ?_
            refine k_lve (lv' := [(3, .int (nI (6 * (it + 1)))), (0, .ref b), (1, .ref ob), (2, .ref m)]) (by rw [show (6 * it) + 6 = 6 * (it + 1) by omega]) ?_
            refine k_wide (k := 32 + (it + 1) + 2 * tc) (n := 60166 + 14 * (it + 1) + 490 * tc) (by omega) (by omega) ?_
            exact ih18 W2 (if (!decide (nn = 30) && blw (xs ((6 * it) + 1)) (nI nn)) = true then (T, E, ne, va_up qk nn (8), va_up nv nn (uL [0, (xs ((6 * it) + 1)), (-1 : Int32), 0, 0, 0, 0, 0, 0, 0, 0, 0, 0, 0]), nn + 1, L0) else (T, E, ne, qk, nv, nn, L0)) tc (it + 1) (by omega)  (by omega) hF2 hM2
          · skip
            exact absurd rfl c513
        · skip
          refine k_val (y := nI 10) (by rw [sw33]) ?_
          refine k_tableIn (tgt := 518) C dL_law_33 (by decide) (by decide) rfl (by decide) ?_
          refine k_aload_n C dL_law_518 rfl 2 rfl ?_
          refine k_aload_n C dL_law_519 rfl 1 rfl ?_
          refine k_iload_n C dL_law_520 rfl 0 rfl ?_
          refine k_iconst (v := nI 1) C dL_law_521 rfl ?_
          refine k_iadd C dL_law_522 ?_
          refine k_val (y := nI ((6 * it) + 1)) (nI_add (6 * it) 1) ?_
          refine k_sld (v := xs ((6 * it) + 1)) C hX hbl hbA (vp_in_nI (by omega) (by omega)) (by rw [nI_clamp (by omega)]) dL_law_523 ?_
          refine k_aload_n C dL_law_524 rfl 1 rfl ?_
          refine k_iload_n C dL_law_525 rfl 0 rfl ?_
          refine k_iconst (v := nI 2) C dL_law_526 rfl ?_
          refine k_iadd C dL_law_527 ?_
          refine k_val (y := nI ((6 * it) + 2)) (nI_add (6 * it) 2) ?_
          refine k_sld (v := xs ((6 * it) + 2)) C hX hbl hbA (vp_in_nI (by omega) (by omega)) (by rw [nI_clamp (by omega)]) dL_law_528 ?_
          refine k_aload_n C dL_law_529 rfl 1 rfl ?_
          refine k_iload_n C dL_law_530 rfl 0 rfl ?_
          refine k_iconst (v := nI 3) C dL_law_531 rfl ?_
          refine k_iadd C dL_law_532 ?_
          refine k_val (y := nI ((6 * it) + 3)) (nI_add (6 * it) 3) ?_
          refine k_sld (v := xs ((6 * it) + 3)) C hX hbl hbA (vp_in_nI (by omega) (by omega)) (by rw [nI_clamp (by omega)]) dL_law_533 ?_
          obtain ⟨obf, h_ob⟩ := FC.obj hF
          refine k_callV C mv_L_57 (hz_slice (y := xs ((6 * it) + 1)) (x := xs ((6 * it) + 2)) (z := xs ((6 * it) + 3)) hF) h_ob rfl rfl (by simp [Value.category]) ⟨Nat.le_of_ble_eq_true rfl, Nat.le_of_ble_eq_true rfl⟩ ⟨(Nat.le_trans (show 32 + it + 2 * tc + 1 ≤ 784 by omega) (Nat.le_of_ble_eq_true rfl)), (Nat.le_trans (show 60166 + 14 * it + 490 * tc + 14 ≤ 126134 by omega) (Nat.le_of_ble_eq_true rfl))⟩ dL_law_534 (fun zv W1 zh => ?_)
          obtain ⟨rfl, hF1, hfr1⟩ := zh
          have hM1 : MZ cI W1 m wt wa wv wm wr wc wn ws wk wp (T, E, ne, qk, nv, nn, L0) := ls1 hM hfr1
          obtain ⟨mbf, h_mb⟩ := MC.ob hM1
          refine k_pc (pc' := 537) (st' := [.int (if ((!decide (nn = 30) && blw (xs ((6 * it) + 1)) (nI nn)) && sln (xs ((6 * it) + 2)) && sln (xs ((6 * it) + 3))) = true then nI nn else -1)]) rfl rfl ?_
          refine k_aload_n C dL_law_537 rfl 3 rfl ?_
          refine k_aload_n C dL_law_538 rfl 1 rfl ?_
          refine k_iload_n C dL_law_539 rfl 0 rfl ?_
          refine k_iconst (v := nI 1) C dL_law_540 rfl ?_
          refine k_iadd C dL_law_541 ?_
          refine k_val (y := nI ((6 * it) + 1)) (nI_add (6 * it) 1) ?_
          refine k_sld (v := xs ((6 * it) + 1)) C hX hbl hbA (vp_in_nI (by omega) (by omega)) (by rw [nI_clamp (by omega)]) dL_law_542 ?_
          refine k_aload_n C dL_law_543 rfl 1 rfl ?_
          refine k_iload_n C dL_law_544 rfl 0 rfl ?_
          refine k_iconst (v := nI 2) C dL_law_545 rfl ?_
          refine k_iadd C dL_law_546 ?_
          refine k_val (y := nI ((6 * it) + 2)) (nI_add (6 * it) 2) ?_
          refine k_sld (v := xs ((6 * it) + 2)) C hX hbl hbA (vp_in_nI (by omega) (by omega)) (by rw [nI_clamp (by omega)]) dL_law_547 ?_
          refine k_aload_n C dL_law_548 rfl 1 rfl ?_
          refine k_iload_n C dL_law_549 rfl 0 rfl ?_
          refine k_iconst (v := nI 3) C dL_law_550 rfl ?_
          refine k_iadd C dL_law_551 ?_
          refine k_val (y := nI ((6 * it) + 3)) (nI_add (6 * it) 3) ?_
          refine k_sld (v := xs ((6 * it) + 3)) C hX hbl hbA (vp_in_nI (by omega) (by omega)) (by rw [nI_clamp (by omega)]) dL_law_552 ?_
          refine k_callV C mv_L_60 (gz_slice (y := xs ((6 * it) + 1)) (x := xs ((6 * it) + 2)) (z := xs ((6 * it) + 3)) hM1) h_mb rfl rfl (by simp [Value.category]) ⟨Nat.le_of_ble_eq_true rfl, Nat.le_of_ble_eq_true rfl⟩ ⟨(Nat.le_trans (show 32 + it + 2 * tc + 1 + 0 ≤ 784 by omega) (Nat.le_of_ble_eq_true rfl)), (Nat.le_trans (show 60166 + 14 * it + 490 * tc + 14 + 0 ≤ 126134 by omega) (Nat.le_of_ble_eq_true rfl))⟩ dL_law_553 (fun zv W2 zh => ?_)
          obtain ⟨rfl, hM2, hfr2⟩ := zh
          have hF2 := ls2 hF1 hM2 hfr2 hob
          refine k_pc (pc' := 556) (st' := [.int (if ((!decide (nn = 30) && blw (xs ((6 * it) + 1)) (nI nn)) && sln (xs ((6 * it) + 2)) && sln (xs ((6 * it) + 3))) = true then nI nn else -1), .int (if ((!decide (nn = 30) && blw (xs ((6 * it) + 1)) (nI nn)) && sln (xs ((6 * it) + 2)) && sln (xs ((6 * it) + 3))) = true then nI nn else -1)]) rfl rfl ?_
          refine k_icmp_eq (tgt := 894) C dL_law_556 (by decide) (fun c556 => ?_) (fun c556 => ?_)
          · skip
            refine k_iinc (v := nI ((6 * it) + 6)) (lv' := [(3, .int (nI ((6 * it) + 6))), (0, .ref b), (1, .ref ob), (2, .ref m)]) C dL_law_894 (k := 0) rfl (nI_add (6 * it) 6) (by decide) rfl ?_
            refine k_goto (tgt := 18) C dL_law_897 (by decide) ?_
            refine k_lve (lv' := [(3, .int (nI (6 * (it + 1)))), (0, .ref b), (1, .ref ob), (2, .ref m)]) (by rw [show (6 * it) + 6 = 6 * (it + 1) by omega]) ?_
            refine k_wide (k := 32 + (it + 1) + 2 * tc) (n := 60166 + 14 * (it + 1) + 490 * tc) (by omega) (by omega) ?_
            exact ih18 W2 (if ((!decide (nn = 30) && blw (xs ((6 * it) + 1)) (nI nn)) && sln (xs ((6 * it) + 2)) && sln (xs ((6 * it) + 3))) = true then (T, E, ne, va_up qk nn (9), va_up nv nn (uL [0, (xs ((6 * it) + 1)), (-1 : Int32), 0, 0, 0, 0, 0, 0, (xs ((6 * it) + 2)), (xs ((6 * it) + 3)), 0, 0, 0]), nn + 1, L0) else (T, E, ne, qk, nv, nn, L0)) tc (it + 1) (by omega)  (by omega) hF2 hM2
          · skip
            exact absurd rfl c556
        · skip
          refine k_val (y := nI 11) (by rw [sw33]) ?_
          refine k_tableIn (tgt := 561) C dL_law_33 (by decide) (by decide) rfl (by decide) ?_
          refine k_aload_n C dL_law_561 rfl 2 rfl ?_
          refine k_aload_n C dL_law_562 rfl 1 rfl ?_
          refine k_iload_n C dL_law_563 rfl 0 rfl ?_
          refine k_iconst (v := nI 1) C dL_law_564 rfl ?_
          refine k_iadd C dL_law_565 ?_
          refine k_val (y := nI ((6 * it) + 1)) (nI_add (6 * it) 1) ?_
          refine k_sld (v := xs ((6 * it) + 1)) C hX hbl hbA (vp_in_nI (by omega) (by omega)) (by rw [nI_clamp (by omega)]) dL_law_566 ?_
          refine k_aload_n C dL_law_567 rfl 1 rfl ?_
          refine k_iload_n C dL_law_568 rfl 0 rfl ?_
          refine k_iconst (v := nI 2) C dL_law_569 rfl ?_
          refine k_iadd C dL_law_570 ?_
          refine k_val (y := nI ((6 * it) + 2)) (nI_add (6 * it) 2) ?_
          refine k_sld (v := xs ((6 * it) + 2)) C hX hbl hbA (vp_in_nI (by omega) (by omega)) (by rw [nI_clamp (by omega)]) dL_law_571 ?_
          refine k_aload_n C dL_law_572 rfl 1 rfl ?_
          refine k_iload_n C dL_law_573 rfl 0 rfl ?_
          refine k_iconst (v := nI 3) C dL_law_574 rfl ?_
          refine k_iadd C dL_law_575 ?_
          refine k_val (y := nI ((6 * it) + 3)) (nI_add (6 * it) 3) ?_
          refine k_sld (v := xs ((6 * it) + 3)) C hX hbl hbA (vp_in_nI (by omega) (by omega)) (by rw [nI_clamp (by omega)]) dL_law_576 ?_
          refine k_if_eq (tgt := 584) C dL_law_577 (by decide) (fun c577 => ?_) (fun c577 => ?_)
          · skip
            refine k_iconst (v := nI 0) C dL_law_584 rfl ?_
            obtain ⟨obf, h_ob⟩ := FC.obj hF
            refine k_callV C mv_L_61 (hz_order (y := xs ((6 * it) + 1)) (w := xs ((6 * it) + 2)) (bx := false) hF) h_ob rfl rfl (by simp [Value.category]) ⟨Nat.le_of_ble_eq_true rfl, Nat.le_of_ble_eq_true rfl⟩ ⟨(Nat.le_trans (show 32 + it + 2 * tc + 1 ≤ 784 by omega) (Nat.le_of_ble_eq_true rfl)), (Nat.le_trans (show 60166 + 14 * it + 490 * tc + 14 ≤ 126134 by omega) (Nat.le_of_ble_eq_true rfl))⟩ dL_law_585 (fun zv W1 zh => ?_)
            obtain ⟨rfl, hF1, hfr1⟩ := zh
            have hM1 : MZ cI W1 m wt wa wv wm wr wc wn ws wk wp (T, E, ne, qk, nv, nn, L0) := ls1 hM hfr1
            obtain ⟨mbf, h_mb⟩ := MC.ob hM1
            refine k_pc (pc' := 588) (st' := [.int (if ((!decide (nn = 30) && blw (xs ((6 * it) + 1)) (nI nn)) && blw (xs ((6 * it) + 2)) (nI ne)) = true then nI nn else -1)]) rfl rfl ?_
            refine k_aload_n C dL_law_588 rfl 3 rfl ?_
            refine k_aload_n C dL_law_589 rfl 1 rfl ?_
            refine k_iload_n C dL_law_590 rfl 0 rfl ?_
            refine k_iconst (v := nI 1) C dL_law_591 rfl ?_
            refine k_iadd C dL_law_592 ?_
            refine k_val (y := nI ((6 * it) + 1)) (nI_add (6 * it) 1) ?_
            refine k_sld (v := xs ((6 * it) + 1)) C hX hbl hbA (vp_in_nI (by omega) (by omega)) (by rw [nI_clamp (by omega)]) dL_law_593 ?_
            refine k_aload_n C dL_law_594 rfl 1 rfl ?_
            refine k_iload_n C dL_law_595 rfl 0 rfl ?_
            refine k_iconst (v := nI 2) C dL_law_596 rfl ?_
            refine k_iadd C dL_law_597 ?_
            refine k_val (y := nI ((6 * it) + 2)) (nI_add (6 * it) 2) ?_
            refine k_sld (v := xs ((6 * it) + 2)) C hX hbl hbA (vp_in_nI (by omega) (by omega)) (by rw [nI_clamp (by omega)]) dL_law_598 ?_
            refine k_aload_n C dL_law_599 rfl 1 rfl ?_
            refine k_iload_n C dL_law_600 rfl 0 rfl ?_
            refine k_iconst (v := nI 3) C dL_law_601 rfl ?_
            refine k_iadd C dL_law_602 ?_
            refine k_val (y := nI ((6 * it) + 3)) (nI_add (6 * it) 3) ?_
            refine k_sld (v := xs ((6 * it) + 3)) C hX hbl hbA (vp_in_nI (by omega) (by omega)) (by rw [nI_clamp (by omega)]) dL_law_603 ?_
            refine k_if_eq (tgt := 611) C dL_law_604 (by decide) (fun c604 => ?_) (fun c604 => ?_)
            · skip
              refine k_iconst (v := nI 0) C dL_law_611 rfl ?_
              refine k_callV C mv_L_65 (gz_order (y := xs ((6 * it) + 1)) (w := xs ((6 * it) + 2)) (bx := false) hM1) h_mb rfl rfl (by simp [Value.category]) ⟨Nat.le_of_ble_eq_true rfl, Nat.le_of_ble_eq_true rfl⟩ ⟨(Nat.le_trans (show 32 + it + 2 * tc + 1 + 0 ≤ 784 by omega) (Nat.le_of_ble_eq_true rfl)), (Nat.le_trans (show 60166 + 14 * it + 490 * tc + 14 + 0 ≤ 126134 by omega) (Nat.le_of_ble_eq_true rfl))⟩ dL_law_612 (fun zv W2 zh => ?_)
              obtain ⟨rfl, hM2, hfr2⟩ := zh
              have hF2 := ls2 hF1 hM2 hfr2 hob
              refine k_pc (pc' := 615) (st' := [.int (if ((!decide (nn = 30) && blw (xs ((6 * it) + 1)) (nI nn)) && blw (xs ((6 * it) + 2)) (nI ne)) = true then nI nn else -1), .int (if ((!decide (nn = 30) && blw (xs ((6 * it) + 1)) (nI nn)) && blw (xs ((6 * it) + 2)) (nI ne)) = true then nI nn else -1)]) rfl rfl ?_
              refine k_icmp_eq (tgt := 894) C dL_law_615 (by decide) (fun c615 => ?_) (fun c615 => ?_)
              · skip
                refine k_iinc (v := nI ((6 * it) + 6)) (lv' := [(3, .int (nI ((6 * it) + 6))), (0, .ref b), (1, .ref ob), (2, .ref m)]) C dL_law_894 (k := 0) rfl (nI_add (6 * it) 6) (by decide) rfl ?_
                refine k_goto (tgt := 18) C dL_law_897 (by decide) ?_
                refine k_lve (lv' := [(3, .int (nI (6 * (it + 1)))), (0, .ref b), (1, .ref ob), (2, .ref m)]) (by rw [show (6 * it) + 6 = 6 * (it + 1) by omega]) ?_
                refine k_wide (k := 32 + (it + 1) + 2 * tc) (n := 60166 + 14 * (it + 1) + 490 * tc) (by omega) (by omega) ?_
                exact ih18 W2 (if ((!decide (nn = 30) && blw (xs ((6 * it) + 1)) (nI nn)) && blw (xs ((6 * it) + 2)) (nI ne)) = true then (T, E, ne, va_up qk nn (10), va_up nv nn (uL [0, (xs ((6 * it) + 1)), (-1 : Int32), 0, 0, 0, (xs ((6 * it) + 2)), 0, 0, 0, 0, (bI false), 0, 0]), nn + 1, L0) else (T, E, ne, qk, nv, nn, L0)) tc (it + 1) (by omega)  (by omega) hF2 hM2
              · skip
                exact absurd rfl c615
            · skip
              exact absurd c577 c604
          · skip
            refine k_iconst (v := nI 1) C dL_law_580 rfl ?_
            refine k_goto (tgt := 585) C dL_law_581 (by decide) ?_
            obtain ⟨obf, h_ob⟩ := FC.obj hF
            refine k_callV C mv_L_61 (hz_order (y := xs ((6 * it) + 1)) (w := xs ((6 * it) + 2)) (bx := true) hF) h_ob rfl rfl (by simp [Value.category]) ⟨Nat.le_of_ble_eq_true rfl, Nat.le_of_ble_eq_true rfl⟩ ⟨(Nat.le_trans (show 32 + it + 2 * tc + 1 ≤ 784 by omega) (Nat.le_of_ble_eq_true rfl)), (Nat.le_trans (show 60166 + 14 * it + 490 * tc + 14 ≤ 126134 by omega) (Nat.le_of_ble_eq_true rfl))⟩ dL_law_585 (fun zv W1 zh => ?_)
            obtain ⟨rfl, hF1, hfr1⟩ := zh
            have hM1 : MZ cI W1 m wt wa wv wm wr wc wn ws wk wp (T, E, ne, qk, nv, nn, L0) := ls1 hM hfr1
            obtain ⟨mbf, h_mb⟩ := MC.ob hM1
            refine k_pc (pc' := 588) (st' := [.int (if ((!decide (nn = 30) && blw (xs ((6 * it) + 1)) (nI nn)) && blw (xs ((6 * it) + 2)) (nI ne)) = true then nI nn else -1)]) rfl rfl ?_
            refine k_aload_n C dL_law_588 rfl 3 rfl ?_
            refine k_aload_n C dL_law_589 rfl 1 rfl ?_
            refine k_iload_n C dL_law_590 rfl 0 rfl ?_
            refine k_iconst (v := nI 1) C dL_law_591 rfl ?_
            refine k_iadd C dL_law_592 ?_
            refine k_val (y := nI ((6 * it) + 1)) (nI_add (6 * it) 1) ?_
            refine k_sld (v := xs ((6 * it) + 1)) C hX hbl hbA (vp_in_nI (by omega) (by omega)) (by rw [nI_clamp (by omega)]) dL_law_593 ?_
            refine k_aload_n C dL_law_594 rfl 1 rfl ?_
            refine k_iload_n C dL_law_595 rfl 0 rfl ?_
            refine k_iconst (v := nI 2) C dL_law_596 rfl ?_
            refine k_iadd C dL_law_597 ?_
            refine k_val (y := nI ((6 * it) + 2)) (nI_add (6 * it) 2) ?_
            refine k_sld (v := xs ((6 * it) + 2)) C hX hbl hbA (vp_in_nI (by omega) (by omega)) (by rw [nI_clamp (by omega)]) dL_law_598 ?_
            refine k_aload_n C dL_law_599 rfl 1 rfl ?_
            refine k_iload_n C dL_law_600 rfl 0 rfl ?_
            refine k_iconst (v := nI 3) C dL_law_601 rfl ?_
            refine k_iadd C dL_law_602 ?_
            refine k_val (y := nI ((6 * it) + 3)) (nI_add (6 * it) 3) ?_
            refine k_sld (v := xs ((6 * it) + 3)) C hX hbl hbA (vp_in_nI (by omega) (by omega)) (by rw [nI_clamp (by omega)]) dL_law_603 ?_
            refine k_if_eq (tgt := 611) C dL_law_604 (by decide) (fun c604 => ?_) (fun c604 => ?_)
            · skip
              exact absurd c604 c577
            · skip
              refine k_iconst (v := nI 1) C dL_law_607 rfl ?_
              refine k_goto (tgt := 612) C dL_law_608 (by decide) ?_
              refine k_callV C mv_L_65 (gz_order (y := xs ((6 * it) + 1)) (w := xs ((6 * it) + 2)) (bx := true) hM1) h_mb rfl rfl (by simp [Value.category]) ⟨Nat.le_of_ble_eq_true rfl, Nat.le_of_ble_eq_true rfl⟩ ⟨(Nat.le_trans (show 32 + it + 2 * tc + 1 + 0 ≤ 784 by omega) (Nat.le_of_ble_eq_true rfl)), (Nat.le_trans (show 60166 + 14 * it + 490 * tc + 14 + 0 ≤ 126134 by omega) (Nat.le_of_ble_eq_true rfl))⟩ dL_law_612 (fun zv W2 zh => ?_)
              obtain ⟨rfl, hM2, hfr2⟩ := zh
              have hF2 := ls2 hF1 hM2 hfr2 hob
              refine k_pc (pc' := 615) (st' := [.int (if ((!decide (nn = 30) && blw (xs ((6 * it) + 1)) (nI nn)) && blw (xs ((6 * it) + 2)) (nI ne)) = true then nI nn else -1), .int (if ((!decide (nn = 30) && blw (xs ((6 * it) + 1)) (nI nn)) && blw (xs ((6 * it) + 2)) (nI ne)) = true then nI nn else -1)]) rfl rfl ?_
              refine k_icmp_eq (tgt := 894) C dL_law_615 (by decide) (fun c615 => ?_) (fun c615 => ?_)
              · skip
                refine k_iinc (v := nI ((6 * it) + 6)) (lv' := [(3, .int (nI ((6 * it) + 6))), (0, .ref b), (1, .ref ob), (2, .ref m)]) C dL_law_894 (k := 0) rfl (nI_add (6 * it) 6) (by decide) rfl ?_
                refine k_goto (tgt := 18) C dL_law_897 (by decide) ?_
                refine k_lve (lv' := [(3, .int (nI (6 * (it + 1)))), (0, .ref b), (1, .ref ob), (2, .ref m)]) (by rw [show (6 * it) + 6 = 6 * (it + 1) by omega]) ?_
                refine k_wide (k := 32 + (it + 1) + 2 * tc) (n := 60166 + 14 * (it + 1) + 490 * tc) (by omega) (by omega) ?_
                exact ih18 W2 (if ((!decide (nn = 30) && blw (xs ((6 * it) + 1)) (nI nn)) && blw (xs ((6 * it) + 2)) (nI ne)) = true then (T, E, ne, va_up qk nn (10), va_up nv nn (uL [0, (xs ((6 * it) + 1)), (-1 : Int32), 0, 0, 0, (xs ((6 * it) + 2)), 0, 0, 0, 0, (bI true), 0, 0]), nn + 1, L0) else (T, E, ne, qk, nv, nn, L0)) tc (it + 1) (by omega)  (by omega) hF2 hM2
              · skip
                exact absurd rfl c615
        · skip
          refine k_val (y := nI 12) (by rw [sw33]) ?_
          refine k_tableIn (tgt := 620) C dL_law_33 (by decide) (by decide) rfl (by decide) ?_
          refine k_aload_n C dL_law_620 rfl 2 rfl ?_
          refine k_aload_n C dL_law_621 rfl 1 rfl ?_
          refine k_iload_n C dL_law_622 rfl 0 rfl ?_
          refine k_iconst (v := nI 1) C dL_law_623 rfl ?_
          refine k_iadd C dL_law_624 ?_
          refine k_val (y := nI ((6 * it) + 1)) (nI_add (6 * it) 1) ?_
          refine k_sld (v := xs ((6 * it) + 1)) C hX hbl hbA (vp_in_nI (by omega) (by omega)) (by rw [nI_clamp (by omega)]) dL_law_625 ?_
          refine k_aload_n C dL_law_626 rfl 1 rfl ?_
          refine k_iload_n C dL_law_627 rfl 0 rfl ?_
          refine k_iconst (v := nI 2) C dL_law_628 rfl ?_
          refine k_iadd C dL_law_629 ?_
          refine k_val (y := nI ((6 * it) + 2)) (nI_add (6 * it) 2) ?_
          refine k_sld (v := xs ((6 * it) + 2)) C hX hbl hbA (vp_in_nI (by omega) (by omega)) (by rw [nI_clamp (by omega)]) dL_law_630 ?_
          refine k_aload_n C dL_law_631 rfl 1 rfl ?_
          refine k_iload_n C dL_law_632 rfl 0 rfl ?_
          refine k_iconst (v := nI 3) C dL_law_633 rfl ?_
          refine k_iadd C dL_law_634 ?_
          refine k_val (y := nI ((6 * it) + 3)) (nI_add (6 * it) 3) ?_
          refine k_sld (v := xs ((6 * it) + 3)) C hX hbl hbA (vp_in_nI (by omega) (by omega)) (by rw [nI_clamp (by omega)]) dL_law_635 ?_
          refine k_aload_n C dL_law_636 rfl 1 rfl ?_
          refine k_iload_n C dL_law_637 rfl 0 rfl ?_
          refine k_iconst (v := nI 4) C dL_law_638 rfl ?_
          refine k_iadd C dL_law_639 ?_
          refine k_val (y := nI ((6 * it) + 4)) (nI_add (6 * it) 4) ?_
          refine k_sld (v := xs ((6 * it) + 4)) C hX hbl hbA (vp_in_nI (by omega) (by omega)) (by rw [nI_clamp (by omega)]) dL_law_640 ?_
          refine k_aload_n C dL_law_641 rfl 1 rfl ?_
          refine k_iload_n C dL_law_642 rfl 0 rfl ?_
          refine k_iconst (v := nI 5) C dL_law_643 rfl ?_
          refine k_iadd C dL_law_644 ?_
          refine k_val (y := nI ((6 * it) + 5)) (nI_add (6 * it) 5) ?_
          refine k_sld (v := xs ((6 * it) + 5)) C hX hbl hbA (vp_in_nI (by omega) (by omega)) (by rw [nI_clamp (by omega)]) dL_law_645 ?_
          obtain ⟨obf, h_ob⟩ := FC.obj hF
          refine k_callV C mv_L_66 (hz_group (y := xs ((6 * it) + 1)) (x := xs ((6 * it) + 2)) (z := xs ((6 * it) + 3)) (w := xs ((6 * it) + 4)) (v := xs ((6 * it) + 5)) hF) h_ob rfl rfl (by simp [Value.category]) ⟨Nat.le_of_ble_eq_true rfl, Nat.le_of_ble_eq_true rfl⟩ ⟨(Nat.le_trans (show 32 + it + 2 * tc + 1 ≤ 784 by omega) (Nat.le_of_ble_eq_true rfl)), (Nat.le_trans (show 60166 + 14 * it + 490 * tc + 14 ≤ 126134 by omega) (Nat.le_of_ble_eq_true rfl))⟩ dL_law_646 (fun zv W1 zh => ?_)
          obtain ⟨rfl, hF1, hfr1⟩ := zh
          have hM1 : MZ cI W1 m wt wa wv wm wr wc wn ws wk wp (T, E, ne, qk, nv, nn, L0) := ls1 hM hfr1
          obtain ⟨mbf, h_mb⟩ := MC.ob hM1
          refine k_pc (pc' := 649) (st' := [.int (if ((!decide (nn = 30) && blw (xs ((6 * it) + 1)) (nI nn)) && blw (xs ((6 * it) + 2)) (nI 64) && blw (xs ((6 * it) + 3)) (nI 4) && blw (xs ((6 * it) + 4)) (nI ne) && blw (xs ((6 * it) + 5)) (nI 6) && !inS (xs ((6 * it) + 2)) (xs ((6 * it) + 5))) = true then nI nn else -1)]) rfl rfl ?_
          refine k_aload_n C dL_law_649 rfl 3 rfl ?_
          refine k_aload_n C dL_law_650 rfl 1 rfl ?_
          refine k_iload_n C dL_law_651 rfl 0 rfl ?_
          refine k_iconst (v := nI 1) C dL_law_652 rfl ?_
          refine k_iadd C dL_law_653 ?_
          refine k_val (y := nI ((6 * it) + 1)) (nI_add (6 * it) 1) ?_
          refine k_sld (v := xs ((6 * it) + 1)) C hX hbl hbA (vp_in_nI (by omega) (by omega)) (by rw [nI_clamp (by omega)]) dL_law_654 ?_
          refine k_aload_n C dL_law_655 rfl 1 rfl ?_
          refine k_iload_n C dL_law_656 rfl 0 rfl ?_
          refine k_iconst (v := nI 2) C dL_law_657 rfl ?_
          refine k_iadd C dL_law_658 ?_
          refine k_val (y := nI ((6 * it) + 2)) (nI_add (6 * it) 2) ?_
          refine k_sld (v := xs ((6 * it) + 2)) C hX hbl hbA (vp_in_nI (by omega) (by omega)) (by rw [nI_clamp (by omega)]) dL_law_659 ?_
          refine k_aload_n C dL_law_660 rfl 1 rfl ?_
          refine k_iload_n C dL_law_661 rfl 0 rfl ?_
          refine k_iconst (v := nI 3) C dL_law_662 rfl ?_
          refine k_iadd C dL_law_663 ?_
          refine k_val (y := nI ((6 * it) + 3)) (nI_add (6 * it) 3) ?_
          refine k_sld (v := xs ((6 * it) + 3)) C hX hbl hbA (vp_in_nI (by omega) (by omega)) (by rw [nI_clamp (by omega)]) dL_law_664 ?_
          refine k_aload_n C dL_law_665 rfl 1 rfl ?_
          refine k_iload_n C dL_law_666 rfl 0 rfl ?_
          refine k_iconst (v := nI 4) C dL_law_667 rfl ?_
          refine k_iadd C dL_law_668 ?_
          refine k_val (y := nI ((6 * it) + 4)) (nI_add (6 * it) 4) ?_
          refine k_sld (v := xs ((6 * it) + 4)) C hX hbl hbA (vp_in_nI (by omega) (by omega)) (by rw [nI_clamp (by omega)]) dL_law_669 ?_
          refine k_aload_n C dL_law_670 rfl 1 rfl ?_
          refine k_iload_n C dL_law_671 rfl 0 rfl ?_
          refine k_iconst (v := nI 5) C dL_law_672 rfl ?_
          refine k_iadd C dL_law_673 ?_
          refine k_val (y := nI ((6 * it) + 5)) (nI_add (6 * it) 5) ?_
          refine k_sld (v := xs ((6 * it) + 5)) C hX hbl hbA (vp_in_nI (by omega) (by omega)) (by rw [nI_clamp (by omega)]) dL_law_674 ?_
          refine k_callV C mv_L_70 (gz_group (y := xs ((6 * it) + 1)) (x := xs ((6 * it) + 2)) (z := xs ((6 * it) + 3)) (w := xs ((6 * it) + 4)) (v := xs ((6 * it) + 5)) hM1) h_mb rfl rfl (by simp [Value.category]) ⟨Nat.le_of_ble_eq_true rfl, Nat.le_of_ble_eq_true rfl⟩ ⟨(Nat.le_trans (show 32 + it + 2 * tc + 1 + 0 ≤ 784 by omega) (Nat.le_of_ble_eq_true rfl)), (Nat.le_trans (show 60166 + 14 * it + 490 * tc + 14 + 0 ≤ 126134 by omega) (Nat.le_of_ble_eq_true rfl))⟩ dL_law_675 (fun zv W2 zh => ?_)
          obtain ⟨rfl, hM2, hfr2⟩ := zh
          have hF2 := ls2 hF1 hM2 hfr2 hob
          refine k_pc (pc' := 678) (st' := [.int (if ((!decide (nn = 30) && blw (xs ((6 * it) + 1)) (nI nn)) && blw (xs ((6 * it) + 2)) (nI 64) && blw (xs ((6 * it) + 3)) (nI 4) && blw (xs ((6 * it) + 4)) (nI ne) && blw (xs ((6 * it) + 5)) (nI 6) && !inS (xs ((6 * it) + 2)) (xs ((6 * it) + 5))) = true then nI nn else -1), .int (if ((!decide (nn = 30) && blw (xs ((6 * it) + 1)) (nI nn)) && blw (xs ((6 * it) + 2)) (nI 64) && blw (xs ((6 * it) + 3)) (nI 4) && blw (xs ((6 * it) + 4)) (nI ne) && blw (xs ((6 * it) + 5)) (nI 6) && !inS (xs ((6 * it) + 2)) (xs ((6 * it) + 5))) = true then nI nn else -1)]) rfl rfl ?_
          refine k_icmp_eq (tgt := 894) C dL_law_678 (by decide) (fun c678 => ?_) (fun c678 => ?_)
          · skip
            refine k_iinc (v := nI ((6 * it) + 6)) (lv' := [(3, .int (nI ((6 * it) + 6))), (0, .ref b), (1, .ref ob), (2, .ref m)]) C dL_law_894 (k := 0) rfl (nI_add (6 * it) 6) (by decide) rfl ?_
            refine k_goto (tgt := 18) C dL_law_897 (by decide) ?_
            refine k_lve (lv' := [(3, .int (nI (6 * (it + 1)))), (0, .ref b), (1, .ref ob), (2, .ref m)]) (by rw [show (6 * it) + 6 = 6 * (it + 1) by omega]) ?_
            refine k_wide (k := 32 + (it + 1) + 2 * tc) (n := 60166 + 14 * (it + 1) + 490 * tc) (by omega) (by omega) ?_
            exact ih18 W2 (if ((!decide (nn = 30) && blw (xs ((6 * it) + 1)) (nI nn)) && blw (xs ((6 * it) + 2)) (nI 64) && blw (xs ((6 * it) + 3)) (nI 4) && blw (xs ((6 * it) + 4)) (nI ne) && blw (xs ((6 * it) + 5)) (nI 6) && !inS (xs ((6 * it) + 2)) (xs ((6 * it) + 5))) = true then (T, E, ne, va_up qk nn (11), va_up nv nn (uL [0, (xs ((6 * it) + 1)), (-1 : Int32), 0, 0, 0, (xs ((6 * it) + 4)), (xs ((6 * it) + 5)), (xs ((6 * it) + 2)), 0, 0, 0, (xs ((6 * it) + 3)), 0]), nn + 1, L0) else (T, E, ne, qk, nv, nn, L0)) tc (it + 1) (by omega)  (by omega) hF2 hM2
          · skip
            exact absurd rfl c678
        · skip
          refine k_val (y := nI 13) (by rw [sw33]) ?_
          refine k_tableIn (tgt := 683) C dL_law_33 (by decide) (by decide) rfl (by decide) ?_
          refine k_aload_n C dL_law_683 rfl 2 rfl ?_
          refine k_aload_n C dL_law_684 rfl 1 rfl ?_
          refine k_iload_n C dL_law_685 rfl 0 rfl ?_
          refine k_iconst (v := nI 1) C dL_law_686 rfl ?_
          refine k_iadd C dL_law_687 ?_
          refine k_val (y := nI ((6 * it) + 1)) (nI_add (6 * it) 1) ?_
          refine k_sld (v := xs ((6 * it) + 1)) C hX hbl hbA (vp_in_nI (by omega) (by omega)) (by rw [nI_clamp (by omega)]) dL_law_688 ?_
          refine k_aload_n C dL_law_689 rfl 1 rfl ?_
          refine k_iload_n C dL_law_690 rfl 0 rfl ?_
          refine k_iconst (v := nI 2) C dL_law_691 rfl ?_
          refine k_iadd C dL_law_692 ?_
          refine k_val (y := nI ((6 * it) + 2)) (nI_add (6 * it) 2) ?_
          refine k_sld (v := xs ((6 * it) + 2)) C hX hbl hbA (vp_in_nI (by omega) (by omega)) (by rw [nI_clamp (by omega)]) dL_law_693 ?_
          obtain ⟨obf, h_ob⟩ := FC.obj hF
          refine k_callV C mv_L_71 (hz_graph (x := xs ((6 * it) + 1)) (y := xs ((6 * it) + 2)) hF) h_ob rfl rfl (by simp [Value.category]) ⟨Nat.le_of_ble_eq_true rfl, Nat.le_of_ble_eq_true rfl⟩ ⟨(Nat.le_trans (show 32 + it + 2 * tc + 1 ≤ 784 by omega) (Nat.le_of_ble_eq_true rfl)), (Nat.le_trans (show 60166 + 14 * it + 490 * tc + 14 ≤ 126134 by omega) (Nat.le_of_ble_eq_true rfl))⟩ dL_law_694 (fun zv W1 zh => ?_)
          obtain ⟨rfl, hF1, hfr1⟩ := zh
          have hM1 : MZ cI W1 m wt wa wv wm wr wc wn ws wk wp (T, E, ne, qk, nv, nn, L0) := ls1 hM hfr1
          obtain ⟨mbf, h_mb⟩ := MC.ob hM1
          refine k_pc (pc' := 697) (st' := [.int (if (blw (xs ((6 * it) + 1)) (nI 4) && (!decide (nn = 30) && blw (xs ((6 * it) + 2)) (nI nn))) = true then nI nn else -1)]) rfl rfl ?_
          refine k_aload_n C dL_law_697 rfl 3 rfl ?_
          refine k_aload_n C dL_law_698 rfl 1 rfl ?_
          refine k_iload_n C dL_law_699 rfl 0 rfl ?_
          refine k_iconst (v := nI 1) C dL_law_700 rfl ?_
          refine k_iadd C dL_law_701 ?_
          refine k_val (y := nI ((6 * it) + 1)) (nI_add (6 * it) 1) ?_
          refine k_sld (v := xs ((6 * it) + 1)) C hX hbl hbA (vp_in_nI (by omega) (by omega)) (by rw [nI_clamp (by omega)]) dL_law_702 ?_
          refine k_aload_n C dL_law_703 rfl 1 rfl ?_
          refine k_iload_n C dL_law_704 rfl 0 rfl ?_
          refine k_iconst (v := nI 2) C dL_law_705 rfl ?_
          refine k_iadd C dL_law_706 ?_
          refine k_val (y := nI ((6 * it) + 2)) (nI_add (6 * it) 2) ?_
          refine k_sld (v := xs ((6 * it) + 2)) C hX hbl hbA (vp_in_nI (by omega) (by omega)) (by rw [nI_clamp (by omega)]) dL_law_707 ?_
          refine k_callV C mv_L_74 (gz_graph (x := xs ((6 * it) + 1)) (y := xs ((6 * it) + 2)) hM1) h_mb rfl rfl (by simp [Value.category]) ⟨Nat.le_of_ble_eq_true rfl, Nat.le_of_ble_eq_true rfl⟩ ⟨(Nat.le_trans (show 32 + it + 2 * tc + 1 + 0 ≤ 784 by omega) (Nat.le_of_ble_eq_true rfl)), (Nat.le_trans (show 60166 + 14 * it + 490 * tc + 14 + 0 ≤ 126134 by omega) (Nat.le_of_ble_eq_true rfl))⟩ dL_law_708 (fun zv W2 zh => ?_)
          obtain ⟨rfl, hM2, hfr2⟩ := zh
          have hF2 := ls2 hF1 hM2 hfr2 hob
          refine k_pc (pc' := 711) (st' := [.int (if (blw (xs ((6 * it) + 1)) (nI 4) && (!decide (nn = 30) && blw (xs ((6 * it) + 2)) (nI nn))) = true then nI nn else -1), .int (if (blw (xs ((6 * it) + 1)) (nI 4) && (!decide (nn = 30) && blw (xs ((6 * it) + 2)) (nI nn))) = true then nI nn else -1)]) rfl rfl ?_
          refine k_icmp_eq (tgt := 894) C dL_law_711 (by decide) (fun c711 => ?_) (fun c711 => ?_)
          · skip
            refine k_iinc (v := nI ((6 * it) + 6)) (lv' := [(3, .int (nI ((6 * it) + 6))), (0, .ref b), (1, .ref ob), (2, .ref m)]) C dL_law_894 (k := 0) rfl (nI_add (6 * it) 6) (by decide) rfl ?_
            refine k_goto (tgt := 18) C dL_law_897 (by decide) ?_
            refine k_lve (lv' := [(3, .int (nI (6 * (it + 1)))), (0, .ref b), (1, .ref ob), (2, .ref m)]) (by rw [show (6 * it) + 6 = 6 * (it + 1) by omega]) ?_
            refine k_wide (k := 32 + (it + 1) + 2 * tc) (n := 60166 + 14 * (it + 1) + 490 * tc) (by omega) (by omega) ?_
            exact ih18 W2 (if (blw (xs ((6 * it) + 1)) (nI 4) && (!decide (nn = 30) && blw (xs ((6 * it) + 2)) (nI nn))) = true then (T, E, ne, va_up qk nn (12), va_up nv nn (uL [0, (xs ((6 * it) + 2)), (-1 : Int32), 0, 0, 0, 0, 0, 0, 0, 0, 0, 0, (xs ((6 * it) + 1))]), nn + 1, L0) else (T, E, ne, qk, nv, nn, L0)) tc (it + 1) (by omega)  (by omega) hF2 hM2
          · skip
            exact absurd rfl c711
        · skip
          refine k_val (y := nI 14) (by rw [sw33]) ?_
          refine k_tableIn (tgt := 716) C dL_law_33 (by decide) (by decide) rfl (by decide) ?_
          refine k_aload_n C dL_law_716 rfl 2 rfl ?_
          refine k_aload_n C dL_law_717 rfl 1 rfl ?_
          refine k_iload_n C dL_law_718 rfl 0 rfl ?_
          refine k_iconst (v := nI 1) C dL_law_719 rfl ?_
          refine k_iadd C dL_law_720 ?_
          refine k_val (y := nI ((6 * it) + 1)) (nI_add (6 * it) 1) ?_
          refine k_sld (v := xs ((6 * it) + 1)) C hX hbl hbA (vp_in_nI (by omega) (by omega)) (by rw [nI_clamp (by omega)]) dL_law_721 ?_
          refine k_aload_n C dL_law_722 rfl 1 rfl ?_
          refine k_iload_n C dL_law_723 rfl 0 rfl ?_
          refine k_iconst (v := nI 2) C dL_law_724 rfl ?_
          refine k_iadd C dL_law_725 ?_
          refine k_val (y := nI ((6 * it) + 2)) (nI_add (6 * it) 2) ?_
          refine k_sld (v := xs ((6 * it) + 2)) C hX hbl hbA (vp_in_nI (by omega) (by omega)) (by rw [nI_clamp (by omega)]) dL_law_726 ?_
          obtain ⟨obf, h_ob⟩ := FC.obj hF
          refine k_callV C mv_L_75 (hz_graphs (x := xs ((6 * it) + 1)) (y := xs ((6 * it) + 2)) hF) h_ob rfl rfl (by simp [Value.category]) ⟨Nat.le_of_ble_eq_true rfl, Nat.le_of_ble_eq_true rfl⟩ ⟨(Nat.le_trans (show 32 + it + 2 * tc + 1 ≤ 784 by omega) (Nat.le_of_ble_eq_true rfl)), (Nat.le_trans (show 60166 + 14 * it + 490 * tc + 14 ≤ 126134 by omega) (Nat.le_of_ble_eq_true rfl))⟩ dL_law_727 (fun zv W1 zh => ?_)
          obtain ⟨rfl, hF1, hfr1⟩ := zh
          have hM1 : MZ cI W1 m wt wa wv wm wr wc wn ws wk wp (T, E, ne, qk, nv, nn, L0) := ls1 hM hfr1
          obtain ⟨mbf, h_mb⟩ := MC.ob hM1
          refine k_pc (pc' := 730) (st' := [.int (if (blw (xs ((6 * it) + 1)) (nI 6) && (!decide (nn = 30) && blw (xs ((6 * it) + 2)) (nI nn))) = true then nI nn else -1)]) rfl rfl ?_
          refine k_aload_n C dL_law_730 rfl 3 rfl ?_
          refine k_aload_n C dL_law_731 rfl 1 rfl ?_
          refine k_iload_n C dL_law_732 rfl 0 rfl ?_
          refine k_iconst (v := nI 1) C dL_law_733 rfl ?_
          refine k_iadd C dL_law_734 ?_
          refine k_val (y := nI ((6 * it) + 1)) (nI_add (6 * it) 1) ?_
          refine k_sld (v := xs ((6 * it) + 1)) C hX hbl hbA (vp_in_nI (by omega) (by omega)) (by rw [nI_clamp (by omega)]) dL_law_735 ?_
          refine k_aload_n C dL_law_736 rfl 1 rfl ?_
          refine k_iload_n C dL_law_737 rfl 0 rfl ?_
          refine k_iconst (v := nI 2) C dL_law_738 rfl ?_
          refine k_iadd C dL_law_739 ?_
          refine k_val (y := nI ((6 * it) + 2)) (nI_add (6 * it) 2) ?_
          refine k_sld (v := xs ((6 * it) + 2)) C hX hbl hbA (vp_in_nI (by omega) (by omega)) (by rw [nI_clamp (by omega)]) dL_law_740 ?_
          refine k_callV C mv_L_78 (gz_graphs (x := xs ((6 * it) + 1)) (y := xs ((6 * it) + 2)) hM1) h_mb rfl rfl (by simp [Value.category]) ⟨Nat.le_of_ble_eq_true rfl, Nat.le_of_ble_eq_true rfl⟩ ⟨(Nat.le_trans (show 32 + it + 2 * tc + 1 + 0 ≤ 784 by omega) (Nat.le_of_ble_eq_true rfl)), (Nat.le_trans (show 60166 + 14 * it + 490 * tc + 14 + 0 ≤ 126134 by omega) (Nat.le_of_ble_eq_true rfl))⟩ dL_law_741 (fun zv W2 zh => ?_)
          obtain ⟨rfl, hM2, hfr2⟩ := zh
          have hF2 := ls2 hF1 hM2 hfr2 hob
          refine k_pc (pc' := 744) (st' := [.int (if (blw (xs ((6 * it) + 1)) (nI 6) && (!decide (nn = 30) && blw (xs ((6 * it) + 2)) (nI nn))) = true then nI nn else -1), .int (if (blw (xs ((6 * it) + 1)) (nI 6) && (!decide (nn = 30) && blw (xs ((6 * it) + 2)) (nI nn))) = true then nI nn else -1)]) rfl rfl ?_
          refine k_icmp_eq (tgt := 894) C dL_law_744 (by decide) (fun c744 => ?_) (fun c744 => ?_)
          · skip
            refine k_iinc (v := nI ((6 * it) + 6)) (lv' := [(3, .int (nI ((6 * it) + 6))), (0, .ref b), (1, .ref ob), (2, .ref m)]) C dL_law_894 (k := 0) rfl (nI_add (6 * it) 6) (by decide) rfl ?_
            refine k_goto (tgt := 18) C dL_law_897 (by decide) ?_
            refine k_lve (lv' := [(3, .int (nI (6 * (it + 1)))), (0, .ref b), (1, .ref ob), (2, .ref m)]) (by rw [show (6 * it) + 6 = 6 * (it + 1) by omega]) ?_
            refine k_wide (k := 32 + (it + 1) + 2 * tc) (n := 60166 + 14 * (it + 1) + 490 * tc) (by omega) (by omega) ?_
            exact ih18 W2 (if (blw (xs ((6 * it) + 1)) (nI 6) && (!decide (nn = 30) && blw (xs ((6 * it) + 2)) (nI nn))) = true then (T, E, ne, va_up qk nn (13), va_up nv nn (uL [0, (xs ((6 * it) + 2)), (-1 : Int32), 0, 0, 0, 0, (xs ((6 * it) + 1)), 0, 0, 0, 0, 0, 0]), nn + 1, L0) else (T, E, ne, qk, nv, nn, L0)) tc (it + 1) (by omega)  (by omega) hF2 hM2
          · skip
            exact absurd rfl c744
        · skip
          refine k_val (y := nI 15) (by rw [sw33]) ?_
          refine k_tableIn (tgt := 749) C dL_law_33 (by decide) (by decide) rfl (by decide) ?_
          refine k_aload_n C dL_law_749 rfl 2 rfl ?_
          refine k_aload_n C dL_law_750 rfl 1 rfl ?_
          refine k_iload_n C dL_law_751 rfl 0 rfl ?_
          refine k_iconst (v := nI 1) C dL_law_752 rfl ?_
          refine k_iadd C dL_law_753 ?_
          refine k_val (y := nI ((6 * it) + 1)) (nI_add (6 * it) 1) ?_
          refine k_sld (v := xs ((6 * it) + 1)) C hX hbl hbA (vp_in_nI (by omega) (by omega)) (by rw [nI_clamp (by omega)]) dL_law_754 ?_
          obtain ⟨d, hd, hct⟩ := hz_run (zl := zl) (D := D) (base := zs.heap.size) (x := xs ((6 * it) + 1)) hF
          obtain ⟨obf, h_ob⟩ := FC.obj hF
          refine k_callV C mv_L_79 hct h_ob rfl rfl (by simp [Value.category]) ⟨Nat.le_of_ble_eq_true rfl, Nat.le_of_ble_eq_true rfl⟩ ⟨(Nat.le_trans (show 32 + it + 2 * tc + (2 * d) ≤ 784 by omega) (Nat.le_of_ble_eq_true rfl)), (Nat.le_trans (show 60166 + 14 * it + 490 * tc + (490 * d) ≤ 126134 by omega) (Nat.le_of_ble_eq_true rfl))⟩ dL_law_755 (fun zv W1 zh => ?_)
          obtain ⟨rfl, hF1, hfr1⟩ := zh
          have hM1 : MZ cI W1 m wt wa wv wm wr wc wn ws wk wp (T, E, ne, qk, nv, nn, L0) := ls1 hM hfr1
          obtain ⟨mbf, h_mb⟩ := MC.ob hM1
          refine k_pc (pc' := 758) (st' := [.int ((runZ T E qk nv nn L0 (xs ((6 * it) + 1))).1)]) rfl rfl ?_
          refine k_aload_n C dL_law_758 rfl 3 rfl ?_
          refine k_aload_n C dL_law_759 rfl 1 rfl ?_
          refine k_iload_n C dL_law_760 rfl 0 rfl ?_
          refine k_iconst (v := nI 1) C dL_law_761 rfl ?_
          refine k_iadd C dL_law_762 ?_
          refine k_val (y := nI ((6 * it) + 1)) (nI_add (6 * it) 1) ?_
          refine k_sld (v := xs ((6 * it) + 1)) C hX hbl hbA (vp_in_nI (by omega) (by omega)) (by rw [nI_clamp (by omega)]) dL_law_763 ?_
          refine k_callV C mv_L_82 (gz_run (x := xs ((6 * it) + 1)) hM1) h_mb rfl rfl (by simp [Value.category]) ⟨Nat.le_of_ble_eq_true rfl, Nat.le_of_ble_eq_true rfl⟩ ⟨(Nat.le_trans (show 32 + it + 2 * tc + (2 * d) + 0 ≤ 784 by omega) (Nat.le_of_ble_eq_true rfl)), (Nat.le_trans (show 60166 + 14 * it + 490 * tc + (490 * d) + 0 ≤ 126134 by omega) (Nat.le_of_ble_eq_true rfl))⟩ dL_law_764 (fun zv W2 zh => ?_)
          obtain ⟨rfl, hM2, hfr2⟩ := zh
          have hF2 := ls2 hF1 hM2 hfr2 hob
          refine k_pc (pc' := 767) (st' := [.int ((runZ T E qk nv nn L0 (xs ((6 * it) + 1))).1), .int ((runZ T E qk nv nn L0 (xs ((6 * it) + 1))).1)]) rfl rfl ?_
          refine k_icmp_eq (tgt := 894) C dL_law_767 (by decide) (fun c767 => ?_) (fun c767 => ?_)
          · skip
            refine k_iinc (v := nI ((6 * it) + 6)) (lv' := [(3, .int (nI ((6 * it) + 6))), (0, .ref b), (1, .ref ob), (2, .ref m)]) C dL_law_894 (k := 0) rfl (nI_add (6 * it) 6) (by decide) rfl ?_
            refine k_goto (tgt := 18) C dL_law_897 (by decide) ?_
            refine k_lve (lv' := [(3, .int (nI (6 * (it + 1)))), (0, .ref b), (1, .ref ob), (2, .ref m)]) (by rw [show (6 * it) + 6 = 6 * (it + 1) by omega]) ?_
            refine k_wide (k := 32 + (it + 1) + 2 * (tc + d)) (n := 60166 + 14 * (it + 1) + 490 * (tc + d)) (by omega) (by omega) ?_
            exact ih18 W2 (T, E, ne, qk, nv, nn, (runZ T E qk nv nn L0 (xs ((6 * it) + 1))).2) (tc + d) (it + 1) (by omega)  (by omega) hF2 hM2
          · skip
            exact absurd rfl c767
        · skip
          refine k_val (y := nI 16) (by rw [sw33]) ?_
          refine k_tableIn (tgt := 772) C dL_law_33 (by decide) (by decide) rfl (by decide) ?_
          refine k_aload_n C dL_law_772 rfl 2 rfl ?_
          refine k_aload_n C dL_law_773 rfl 1 rfl ?_
          refine k_iload_n C dL_law_774 rfl 0 rfl ?_
          refine k_iconst (v := nI 1) C dL_law_775 rfl ?_
          refine k_iadd C dL_law_776 ?_
          refine k_val (y := nI ((6 * it) + 1)) (nI_add (6 * it) 1) ?_
          refine k_sld (v := xs ((6 * it) + 1)) C hX hbl hbA (vp_in_nI (by omega) (by omega)) (by rw [nI_clamp (by omega)]) dL_law_777 ?_
          refine k_aload_n C dL_law_778 rfl 1 rfl ?_
          refine k_iload_n C dL_law_779 rfl 0 rfl ?_
          refine k_iconst (v := nI 2) C dL_law_780 rfl ?_
          refine k_iadd C dL_law_781 ?_
          refine k_val (y := nI ((6 * it) + 2)) (nI_add (6 * it) 2) ?_
          refine k_sld (v := xs ((6 * it) + 2)) C hX hbl hbA (vp_in_nI (by omega) (by omega)) (by rw [nI_clamp (by omega)]) dL_law_782 ?_
          obtain ⟨obf, h_ob⟩ := FC.obj hF
          refine k_callV C mv_L_83 (hz_value (x := xs ((6 * it) + 1)) (y := xs ((6 * it) + 2)) hF) h_ob rfl rfl (by simp [Value.category]) ⟨Nat.le_of_ble_eq_true rfl, Nat.le_of_ble_eq_true rfl⟩ ⟨(Nat.le_trans (show 32 + it + 2 * tc + 0 ≤ 784 by omega) (Nat.le_of_ble_eq_true rfl)), (Nat.le_trans (show 60166 + 14 * it + 490 * tc + 0 ≤ 126134 by omega) (Nat.le_of_ble_eq_true rfl))⟩ dL_law_783 (fun zv W1 zh => ?_)
          obtain ⟨rfl, hF1, hfr1⟩ := zh
          have hM1 : MZ cI W1 m wt wa wv wm wr wc wn ws wk wp (T, E, ne, qk, nv, nn, L0) := ls1 hM hfr1
          obtain ⟨mbf, h_mb⟩ := MC.ob hM1
          refine k_pc (pc' := 786) (st' := [.int (if (blw (xs ((6 * it) + 1)) (nI L0.length) && blw (xs ((6 * it) + 2)) (nI 6)) = true then rowAt L0 (tn (xs ((6 * it) + 1))) (tn (xs ((6 * it) + 2))) else oE)]) rfl rfl ?_
          refine k_aload_n C dL_law_786 rfl 3 rfl ?_
          refine k_aload_n C dL_law_787 rfl 1 rfl ?_
          refine k_iload_n C dL_law_788 rfl 0 rfl ?_
          refine k_iconst (v := nI 1) C dL_law_789 rfl ?_
          refine k_iadd C dL_law_790 ?_
          refine k_val (y := nI ((6 * it) + 1)) (nI_add (6 * it) 1) ?_
          refine k_sld (v := xs ((6 * it) + 1)) C hX hbl hbA (vp_in_nI (by omega) (by omega)) (by rw [nI_clamp (by omega)]) dL_law_791 ?_
          refine k_aload_n C dL_law_792 rfl 1 rfl ?_
          refine k_iload_n C dL_law_793 rfl 0 rfl ?_
          refine k_iconst (v := nI 2) C dL_law_794 rfl ?_
          refine k_iadd C dL_law_795 ?_
          refine k_val (y := nI ((6 * it) + 2)) (nI_add (6 * it) 2) ?_
          refine k_sld (v := xs ((6 * it) + 2)) C hX hbl hbA (vp_in_nI (by omega) (by omega)) (by rw [nI_clamp (by omega)]) dL_law_796 ?_
          refine k_callV C mv_L_86 (gz_value (x := xs ((6 * it) + 1)) (y := xs ((6 * it) + 2)) hM1) h_mb rfl rfl (by simp [Value.category]) ⟨Nat.le_of_ble_eq_true rfl, Nat.le_of_ble_eq_true rfl⟩ ⟨(Nat.le_trans (show 32 + it + 2 * tc + 0 + 0 ≤ 784 by omega) (Nat.le_of_ble_eq_true rfl)), (Nat.le_trans (show 60166 + 14 * it + 490 * tc + 0 + 0 ≤ 126134 by omega) (Nat.le_of_ble_eq_true rfl))⟩ dL_law_797 (fun zv W2 zh => ?_)
          obtain ⟨rfl, hM2, hfr2⟩ := zh
          have hF2 := ls2 hF1 hM2 hfr2 hob
          refine k_pc (pc' := 800) (st' := [.int (if (blw (xs ((6 * it) + 1)) (nI L0.length) && blw (xs ((6 * it) + 2)) (nI 6)) = true then rowAt L0 (tn (xs ((6 * it) + 1))) (tn (xs ((6 * it) + 2))) else oE), .int (if (blw (xs ((6 * it) + 1)) (nI L0.length) && blw (xs ((6 * it) + 2)) (nI 6)) = true then rowAt L0 (tn (xs ((6 * it) + 1))) (tn (xs ((6 * it) + 2))) else oE)]) rfl rfl ?_
          refine k_icmp_eq (tgt := 894) C dL_law_800 (by decide) (fun c800 => ?_) (fun c800 => ?_)
          · skip
            refine k_iinc (v := nI ((6 * it) + 6)) (lv' := [(3, .int (nI ((6 * it) + 6))), (0, .ref b), (1, .ref ob), (2, .ref m)]) C dL_law_894 (k := 0) rfl (nI_add (6 * it) 6) (by decide) rfl ?_
            refine k_goto (tgt := 18) C dL_law_897 (by decide) ?_
            refine k_lve (lv' := [(3, .int (nI (6 * (it + 1)))), (0, .ref b), (1, .ref ob), (2, .ref m)]) (by rw [show (6 * it) + 6 = 6 * (it + 1) by omega]) ?_
            refine k_wide (k := 32 + (it + 1) + 2 * tc) (n := 60166 + 14 * (it + 1) + 490 * tc) (by omega) (by omega) ?_
            exact ih18 W2 (T, E, ne, qk, nv, nn, L0) tc (it + 1) (by omega)  (by omega) hF2 hM2
          · skip
            exact absurd rfl c800
        · skip
          refine k_val (y := nI 17) (by rw [sw33]) ?_
          refine k_tableIn (tgt := 805) C dL_law_33 (by decide) (by decide) rfl (by decide) ?_
          refine k_aload_n C dL_law_805 rfl 2 rfl ?_
          refine k_aload_n C dL_law_806 rfl 1 rfl ?_
          refine k_iload_n C dL_law_807 rfl 0 rfl ?_
          refine k_iconst (v := nI 1) C dL_law_808 rfl ?_
          refine k_iadd C dL_law_809 ?_
          refine k_val (y := nI ((6 * it) + 1)) (nI_add (6 * it) 1) ?_
          refine k_sld (v := xs ((6 * it) + 1)) C hX hbl hbA (vp_in_nI (by omega) (by omega)) (by rw [nI_clamp (by omega)]) dL_law_810 ?_
          refine k_aload_n C dL_law_811 rfl 1 rfl ?_
          refine k_iload_n C dL_law_812 rfl 0 rfl ?_
          refine k_iconst (v := nI 2) C dL_law_813 rfl ?_
          refine k_iadd C dL_law_814 ?_
          refine k_val (y := nI ((6 * it) + 2)) (nI_add (6 * it) 2) ?_
          refine k_sld (v := xs ((6 * it) + 2)) C hX hbl hbA (vp_in_nI (by omega) (by omega)) (by rw [nI_clamp (by omega)]) dL_law_815 ?_
          obtain ⟨obf, h_ob⟩ := FC.obj hF
          refine k_callV C mv_L_87 (hz_look (x := xs ((6 * it) + 1)) (y := xs ((6 * it) + 2)) hF) h_ob rfl rfl (by simp [Value.category]) ⟨Nat.le_of_ble_eq_true rfl, Nat.le_of_ble_eq_true rfl⟩ ⟨(Nat.le_trans (show 32 + it + 2 * tc + 0 ≤ 784 by omega) (Nat.le_of_ble_eq_true rfl)), (Nat.le_trans (show 60166 + 14 * it + 490 * tc + 0 ≤ 126134 by omega) (Nat.le_of_ble_eq_true rfl))⟩ dL_law_816 (fun zv W1 zh => ?_)
          obtain ⟨rfl, hF1, hfr1⟩ := zh
          have hM1 : MZ cI W1 m wt wa wv wm wr wc wn ws wk wp (T, E, ne, qk, nv, nn, L0) := ls1 hM hfr1
          obtain ⟨mbf, h_mb⟩ := MC.ob hM1
          refine k_pc (pc' := 819) (st' := [.int (if (blw (xs ((6 * it) + 1)) (nI L0.length) && blw (xs ((6 * it) + 2)) (nI ne)) = true then ev E (rowAt L0 (tn (xs ((6 * it) + 1)))) (tn (xs ((6 * it) + 2))) else oE)]) rfl rfl ?_
          refine k_aload_n C dL_law_819 rfl 3 rfl ?_
          refine k_aload_n C dL_law_820 rfl 1 rfl ?_
          refine k_iload_n C dL_law_821 rfl 0 rfl ?_
          refine k_iconst (v := nI 1) C dL_law_822 rfl ?_
          refine k_iadd C dL_law_823 ?_
          refine k_val (y := nI ((6 * it) + 1)) (nI_add (6 * it) 1) ?_
          refine k_sld (v := xs ((6 * it) + 1)) C hX hbl hbA (vp_in_nI (by omega) (by omega)) (by rw [nI_clamp (by omega)]) dL_law_824 ?_
          refine k_aload_n C dL_law_825 rfl 1 rfl ?_
          refine k_iload_n C dL_law_826 rfl 0 rfl ?_
          refine k_iconst (v := nI 2) C dL_law_827 rfl ?_
          refine k_iadd C dL_law_828 ?_
          refine k_val (y := nI ((6 * it) + 2)) (nI_add (6 * it) 2) ?_
          refine k_sld (v := xs ((6 * it) + 2)) C hX hbl hbA (vp_in_nI (by omega) (by omega)) (by rw [nI_clamp (by omega)]) dL_law_829 ?_
          refine k_callV C mv_L_90 (gz_look (x := xs ((6 * it) + 1)) (y := xs ((6 * it) + 2)) hM1) h_mb rfl rfl (by simp [Value.category]) ⟨Nat.le_of_ble_eq_true rfl, Nat.le_of_ble_eq_true rfl⟩ ⟨(Nat.le_trans (show 32 + it + 2 * tc + 0 + 0 ≤ 784 by omega) (Nat.le_of_ble_eq_true rfl)), (Nat.le_trans (show 60166 + 14 * it + 490 * tc + 0 + 0 ≤ 126134 by omega) (Nat.le_of_ble_eq_true rfl))⟩ dL_law_830 (fun zv W2 zh => ?_)
          obtain ⟨rfl, hM2, hfr2⟩ := zh
          have hF2 := ls2 hF1 hM2 hfr2 hob
          refine k_pc (pc' := 833) (st' := [.int (if (blw (xs ((6 * it) + 1)) (nI L0.length) && blw (xs ((6 * it) + 2)) (nI ne)) = true then ev E (rowAt L0 (tn (xs ((6 * it) + 1)))) (tn (xs ((6 * it) + 2))) else oE), .int (if (blw (xs ((6 * it) + 1)) (nI L0.length) && blw (xs ((6 * it) + 2)) (nI ne)) = true then ev E (rowAt L0 (tn (xs ((6 * it) + 1)))) (tn (xs ((6 * it) + 2))) else oE)]) rfl rfl ?_
          refine k_icmp_eq (tgt := 894) C dL_law_833 (by decide) (fun c833 => ?_) (fun c833 => ?_)
          · skip
            refine k_iinc (v := nI ((6 * it) + 6)) (lv' := [(3, .int (nI ((6 * it) + 6))), (0, .ref b), (1, .ref ob), (2, .ref m)]) C dL_law_894 (k := 0) rfl (nI_add (6 * it) 6) (by decide) rfl ?_
            refine k_goto (tgt := 18) C dL_law_897 (by decide) ?_
            refine k_lve (lv' := [(3, .int (nI (6 * (it + 1)))), (0, .ref b), (1, .ref ob), (2, .ref m)]) (by rw [show (6 * it) + 6 = 6 * (it + 1) by omega]) ?_
            refine k_wide (k := 32 + (it + 1) + 2 * tc) (n := 60166 + 14 * (it + 1) + 490 * tc) (by omega) (by omega) ?_
            exact ih18 W2 (T, E, ne, qk, nv, nn, L0) tc (it + 1) (by omega)  (by omega) hF2 hM2
          · skip
            exact absurd rfl c833
        · skip
          refine k_val (y := nI 18) (by rw [sw33]) ?_
          refine k_tableIn (tgt := 838) C dL_law_33 (by decide) (by decide) rfl (by decide) ?_
          refine k_aload_n C dL_law_838 rfl 2 rfl ?_
          refine k_aload_n C dL_law_839 rfl 1 rfl ?_
          refine k_iload_n C dL_law_840 rfl 0 rfl ?_
          refine k_iconst (v := nI 1) C dL_law_841 rfl ?_
          refine k_iadd C dL_law_842 ?_
          refine k_val (y := nI ((6 * it) + 1)) (nI_add (6 * it) 1) ?_
          refine k_sld (v := xs ((6 * it) + 1)) C hX hbl hbA (vp_in_nI (by omega) (by omega)) (by rw [nI_clamp (by omega)]) dL_law_843 ?_
          obtain ⟨obf, h_ob⟩ := FC.obj hF
          refine k_callV C mv_L_91 (hz_many (x := xs ((6 * it) + 1)) hF) h_ob rfl rfl (by simp [Value.category]) ⟨Nat.le_of_ble_eq_true rfl, Nat.le_of_ble_eq_true rfl⟩ ⟨(Nat.le_trans (show 32 + it + 2 * tc + 0 ≤ 784 by omega) (Nat.le_of_ble_eq_true rfl)), (Nat.le_trans (show 60166 + 14 * it + 490 * tc + 0 ≤ 126134 by omega) (Nat.le_of_ble_eq_true rfl))⟩ dL_law_844 (fun zv W1 zh => ?_)
          obtain ⟨rfl, hF1, hfr1⟩ := zh
          have hM1 : MZ cI W1 m wt wa wv wm wr wc wn ws wk wp (T, E, ne, qk, nv, nn, L0) := ls1 hM hfr1
          obtain ⟨mbf, h_mb⟩ := MC.ob hM1
          refine k_pc (pc' := 847) (st' := [.int (if blw (xs ((6 * it) + 1)) (nI L0.length) = true then nI (cntR L0 (rowAt L0 (tn (xs ((6 * it) + 1))))) else -1)]) rfl rfl ?_
          refine k_aload_n C dL_law_847 rfl 3 rfl ?_
          refine k_aload_n C dL_law_848 rfl 1 rfl ?_
          refine k_iload_n C dL_law_849 rfl 0 rfl ?_
          refine k_iconst (v := nI 1) C dL_law_850 rfl ?_
          refine k_iadd C dL_law_851 ?_
          refine k_val (y := nI ((6 * it) + 1)) (nI_add (6 * it) 1) ?_
          refine k_sld (v := xs ((6 * it) + 1)) C hX hbl hbA (vp_in_nI (by omega) (by omega)) (by rw [nI_clamp (by omega)]) dL_law_852 ?_
          refine k_callV C mv_L_94 (gz_many (x := xs ((6 * it) + 1)) hM1) h_mb rfl rfl (by simp [Value.category]) ⟨Nat.le_of_ble_eq_true rfl, Nat.le_of_ble_eq_true rfl⟩ ⟨(Nat.le_trans (show 32 + it + 2 * tc + 0 + 0 ≤ 784 by omega) (Nat.le_of_ble_eq_true rfl)), (Nat.le_trans (show 60166 + 14 * it + 490 * tc + 0 + 0 ≤ 126134 by omega) (Nat.le_of_ble_eq_true rfl))⟩ dL_law_853 (fun zv W2 zh => ?_)
          obtain ⟨rfl, hM2, hfr2⟩ := zh
          have hF2 := ls2 hF1 hM2 hfr2 hob
          refine k_pc (pc' := 856) (st' := [.int (if blw (xs ((6 * it) + 1)) (nI L0.length) = true then nI (cntR L0 (rowAt L0 (tn (xs ((6 * it) + 1))))) else -1), .int (if blw (xs ((6 * it) + 1)) (nI L0.length) = true then nI (cntR L0 (rowAt L0 (tn (xs ((6 * it) + 1))))) else -1)]) rfl rfl ?_
          refine k_icmp_eq (tgt := 894) C dL_law_856 (by decide) (fun c856 => ?_) (fun c856 => ?_)
          · skip
            refine k_iinc (v := nI ((6 * it) + 6)) (lv' := [(3, .int (nI ((6 * it) + 6))), (0, .ref b), (1, .ref ob), (2, .ref m)]) C dL_law_894 (k := 0) rfl (nI_add (6 * it) 6) (by decide) rfl ?_
            refine k_goto (tgt := 18) C dL_law_897 (by decide) ?_
            refine k_lve (lv' := [(3, .int (nI (6 * (it + 1)))), (0, .ref b), (1, .ref ob), (2, .ref m)]) (by rw [show (6 * it) + 6 = 6 * (it + 1) by omega]) ?_
            refine k_wide (k := 32 + (it + 1) + 2 * tc) (n := 60166 + 14 * (it + 1) + 490 * tc) (by omega) (by omega) ?_
            exact ih18 W2 (T, E, ne, qk, nv, nn, L0) tc (it + 1) (by omega)  (by omega) hF2 hM2
          · skip
            exact absurd rfl c856
        · skip
          refine k_val (y := nI 19) (by rw [sw33]) ?_
          refine k_tableIn (tgt := 861) C dL_law_33 (by decide) (by decide) rfl (by decide) ?_
          refine k_aload_n C dL_law_861 rfl 2 rfl ?_
          refine k_aload_n C dL_law_862 rfl 1 rfl ?_
          refine k_iload_n C dL_law_863 rfl 0 rfl ?_
          refine k_iconst (v := nI 1) C dL_law_864 rfl ?_
          refine k_iadd C dL_law_865 ?_
          refine k_val (y := nI ((6 * it) + 1)) (nI_add (6 * it) 1) ?_
          refine k_sld (v := xs ((6 * it) + 1)) C hX hbl hbA (vp_in_nI (by omega) (by omega)) (by rw [nI_clamp (by omega)]) dL_law_866 ?_
          refine k_aload_n C dL_law_867 rfl 1 rfl ?_
          refine k_iload_n C dL_law_868 rfl 0 rfl ?_
          refine k_iconst (v := nI 2) C dL_law_869 rfl ?_
          refine k_iadd C dL_law_870 ?_
          refine k_val (y := nI ((6 * it) + 2)) (nI_add (6 * it) 2) ?_
          refine k_sld (v := xs ((6 * it) + 2)) C hX hbl hbA (vp_in_nI (by omega) (by omega)) (by rw [nI_clamp (by omega)]) dL_law_871 ?_
          obtain ⟨d, hd, hct⟩ := hz_same (zl := zl) (D := D) (base := zs.heap.size) (x := xs ((6 * it) + 1)) (y := xs ((6 * it) + 2)) hF
          obtain ⟨obf, h_ob⟩ := FC.obj hF
          refine k_callV C mv_L_95 hct h_ob rfl rfl (by simp [Value.category]) ⟨Nat.le_of_ble_eq_true rfl, Nat.le_of_ble_eq_true rfl⟩ ⟨(Nat.le_trans (show 32 + it + 2 * tc + (2 * d) ≤ 784 by omega) (Nat.le_of_ble_eq_true rfl)), (Nat.le_trans (show 60166 + 14 * it + 490 * tc + (490 * d) ≤ 126134 by omega) (Nat.le_of_ble_eq_true rfl))⟩ dL_law_872 (fun zv W1 zh => ?_)
          obtain ⟨rfl, hF1, hfr1⟩ := zh
          have hM1 : MZ cI W1 m wt wa wv wm wr wc wn ws wk wp (T, E, ne, qk, nv, nn, L0) := ls1 hM hfr1
          obtain ⟨mbf, h_mb⟩ := MC.ob hM1
          refine k_pc (pc' := 875) (st' := [.int (samZ T E qk nv nn (xs ((6 * it) + 1)) (xs ((6 * it) + 2)))]) rfl rfl ?_
          refine k_aload_n C dL_law_875 rfl 3 rfl ?_
          refine k_aload_n C dL_law_876 rfl 1 rfl ?_
          refine k_iload_n C dL_law_877 rfl 0 rfl ?_
          refine k_iconst (v := nI 1) C dL_law_878 rfl ?_
          refine k_iadd C dL_law_879 ?_
          refine k_val (y := nI ((6 * it) + 1)) (nI_add (6 * it) 1) ?_
          refine k_sld (v := xs ((6 * it) + 1)) C hX hbl hbA (vp_in_nI (by omega) (by omega)) (by rw [nI_clamp (by omega)]) dL_law_880 ?_
          refine k_aload_n C dL_law_881 rfl 1 rfl ?_
          refine k_iload_n C dL_law_882 rfl 0 rfl ?_
          refine k_iconst (v := nI 2) C dL_law_883 rfl ?_
          refine k_iadd C dL_law_884 ?_
          refine k_val (y := nI ((6 * it) + 2)) (nI_add (6 * it) 2) ?_
          refine k_sld (v := xs ((6 * it) + 2)) C hX hbl hbA (vp_in_nI (by omega) (by omega)) (by rw [nI_clamp (by omega)]) dL_law_885 ?_
          refine k_callV C mv_L_99 (gz_same (x := xs ((6 * it) + 1)) (y := xs ((6 * it) + 2)) hM1) h_mb rfl rfl (by simp [Value.category]) ⟨Nat.le_of_ble_eq_true rfl, Nat.le_of_ble_eq_true rfl⟩ ⟨(Nat.le_trans (show 32 + it + 2 * tc + (2 * d) + 0 ≤ 784 by omega) (Nat.le_of_ble_eq_true rfl)), (Nat.le_trans (show 60166 + 14 * it + 490 * tc + (490 * d) + 0 ≤ 126134 by omega) (Nat.le_of_ble_eq_true rfl))⟩ dL_law_886 (fun zv W2 zh => ?_)
          obtain ⟨rfl, hM2, hfr2⟩ := zh
          have hF2 := ls2 hF1 hM2 hfr2 hob
          refine k_pc (pc' := 889) (st' := [.int (samZ T E qk nv nn (xs ((6 * it) + 1)) (xs ((6 * it) + 2))), .int (samZ T E qk nv nn (xs ((6 * it) + 1)) (xs ((6 * it) + 2)))]) rfl rfl ?_
          refine k_icmp_eq (tgt := 894) C dL_law_889 (by decide) (fun c889 => ?_) (fun c889 => ?_)
          · skip
            refine k_iinc (v := nI ((6 * it) + 6)) (lv' := [(3, .int (nI ((6 * it) + 6))), (0, .ref b), (1, .ref ob), (2, .ref m)]) C dL_law_894 (k := 0) rfl (nI_add (6 * it) 6) (by decide) rfl ?_
            refine k_goto (tgt := 18) C dL_law_897 (by decide) ?_
            refine k_lve (lv' := [(3, .int (nI (6 * (it + 1)))), (0, .ref b), (1, .ref ob), (2, .ref m)]) (by rw [show (6 * it) + 6 = 6 * (it + 1) by omega]) ?_
            refine k_wide (k := 32 + (it + 1) + 2 * (tc + d)) (n := 60166 + 14 * (it + 1) + 490 * (tc + d)) (by omega) (by omega) ?_
            exact ih18 W2 (T, E, ne, qk, nv, nn, L0) (tc + d) (it + 1) (by omega)  (by omega) hF2 hM2
          · skip
            exact absurd rfl c889
        · skip
          refine k_val (y := nI 20) (by rw [sw33]) ?_
          refine k_tableOut (tgt := 894) C dL_law_33 (by decide) (by decide) ?_
          refine k_iinc (v := nI ((6 * it) + 6)) (lv' := [(3, .int (nI ((6 * it) + 6))), (0, .ref b), (1, .ref ob), (2, .ref m)]) C dL_law_894 (k := 0) rfl (nI_add (6 * it) 6) (by decide) rfl ?_
          refine k_goto (tgt := 18) C dL_law_897 (by decide) ?_
          refine k_lve (lv' := [(3, .int (nI (6 * (it + 1)))), (0, .ref b), (1, .ref ob), (2, .ref m)]) (by rw [show (6 * it) + 6 = 6 * (it + 1) by omega]) ?_
          refine k_wide (k := 32 + (it + 1) + 2 * tc) (n := 60166 + 14 * (it + 1) + 490 * tc) (by omega) (by omega) ?_
          exact ih18 V (T, E, ne, qk, nv, nn, L0) tc (it + 1) (by omega)  (by omega) hF0 hM0
        · skip
          refine k_val (y := nI 21) (by rw [sw33]) ?_
          refine k_tableOut (tgt := 894) C dL_law_33 (by decide) (by decide) ?_
          refine k_iinc (v := nI ((6 * it) + 6)) (lv' := [(3, .int (nI ((6 * it) + 6))), (0, .ref b), (1, .ref ob), (2, .ref m)]) C dL_law_894 (k := 0) rfl (nI_add (6 * it) 6) (by decide) rfl ?_
          refine k_goto (tgt := 18) C dL_law_897 (by decide) ?_
          refine k_lve (lv' := [(3, .int (nI (6 * (it + 1)))), (0, .ref b), (1, .ref ob), (2, .ref m)]) (by rw [show (6 * it) + 6 = 6 * (it + 1) by omega]) ?_
          refine k_wide (k := 32 + (it + 1) + 2 * tc) (n := 60166 + 14 * (it + 1) + 490 * tc) (by omega) (by omega) ?_
          exact ih18 V (T, E, ne, qk, nv, nn, L0) tc (it + 1) (by omega)  (by omega) hF0 hM0
        · skip
          refine k_val (y := nI 22) (by rw [sw33]) ?_
          refine k_tableOut (tgt := 894) C dL_law_33 (by decide) (by decide) ?_
          refine k_iinc (v := nI ((6 * it) + 6)) (lv' := [(3, .int (nI ((6 * it) + 6))), (0, .ref b), (1, .ref ob), (2, .ref m)]) C dL_law_894 (k := 0) rfl (nI_add (6 * it) 6) (by decide) rfl ?_
          refine k_goto (tgt := 18) C dL_law_897 (by decide) ?_
          refine k_lve (lv' := [(3, .int (nI (6 * (it + 1)))), (0, .ref b), (1, .ref ob), (2, .ref m)]) (by rw [show (6 * it) + 6 = 6 * (it + 1) by omega]) ?_
          refine k_wide (k := 32 + (it + 1) + 2 * tc) (n := 60166 + 14 * (it + 1) + 490 * tc) (by omega) (by omega) ?_
          exact ih18 V (T, E, ne, qk, nv, nn, L0) tc (it + 1) (by omega)  (by omega) hF0 hM0
        · skip
          refine k_val (y := nI 23) (by rw [sw33]) ?_
          refine k_tableOut (tgt := 894) C dL_law_33 (by decide) (by decide) ?_
          refine k_iinc (v := nI ((6 * it) + 6)) (lv' := [(3, .int (nI ((6 * it) + 6))), (0, .ref b), (1, .ref ob), (2, .ref m)]) C dL_law_894 (k := 0) rfl (nI_add (6 * it) 6) (by decide) rfl ?_
          refine k_goto (tgt := 18) C dL_law_897 (by decide) ?_
          refine k_lve (lv' := [(3, .int (nI (6 * (it + 1)))), (0, .ref b), (1, .ref ob), (2, .ref m)]) (by rw [show (6 * it) + 6 = 6 * (it + 1) by omega]) ?_
          refine k_wide (k := 32 + (it + 1) + 2 * tc) (n := 60166 + 14 * (it + 1) + 490 * tc) (by omega) (by omega) ?_
          exact ih18 V (T, E, ne, qk, nv, nn, L0) tc (it + 1) (by omega)  (by omega) hF0 hM0
        · skip
          refine k_val (y := nI 24) (by rw [sw33]) ?_
          refine k_tableOut (tgt := 894) C dL_law_33 (by decide) (by decide) ?_
          refine k_iinc (v := nI ((6 * it) + 6)) (lv' := [(3, .int (nI ((6 * it) + 6))), (0, .ref b), (1, .ref ob), (2, .ref m)]) C dL_law_894 (k := 0) rfl (nI_add (6 * it) 6) (by decide) rfl ?_
          refine k_goto (tgt := 18) C dL_law_897 (by decide) ?_
          refine k_lve (lv' := [(3, .int (nI (6 * (it + 1)))), (0, .ref b), (1, .ref ob), (2, .ref m)]) (by rw [show (6 * it) + 6 = 6 * (it + 1) by omega]) ?_
          refine k_wide (k := 32 + (it + 1) + 2 * tc) (n := 60166 + 14 * (it + 1) + 490 * tc) (by omega) (by omega) ?_
          exact ih18 V (T, E, ne, qk, nv, nn, L0) tc (it + 1) (by omega)  (by omega) hF0 hM0
        · skip
          refine k_val (y := nI 25) (by rw [sw33]) ?_
          refine k_tableOut (tgt := 894) C dL_law_33 (by decide) (by decide) ?_
          refine k_iinc (v := nI ((6 * it) + 6)) (lv' := [(3, .int (nI ((6 * it) + 6))), (0, .ref b), (1, .ref ob), (2, .ref m)]) C dL_law_894 (k := 0) rfl (nI_add (6 * it) 6) (by decide) rfl ?_
          refine k_goto (tgt := 18) C dL_law_897 (by decide) ?_
          refine k_lve (lv' := [(3, .int (nI (6 * (it + 1)))), (0, .ref b), (1, .ref ob), (2, .ref m)]) (by rw [show (6 * it) + 6 = 6 * (it + 1) by omega]) ?_
          refine k_wide (k := 32 + (it + 1) + 2 * tc) (n := 60166 + 14 * (it + 1) + 490 * tc) (by omega) (by omega) ?_
          exact ih18 V (T, E, ne, qk, nv, nn, L0) tc (it + 1) (by omega)  (by omega) hF0 hM0
        · skip
          refine k_val (y := nI 26) (by rw [sw33]) ?_
          refine k_tableOut (tgt := 894) C dL_law_33 (by decide) (by decide) ?_
          refine k_iinc (v := nI ((6 * it) + 6)) (lv' := [(3, .int (nI ((6 * it) + 6))), (0, .ref b), (1, .ref ob), (2, .ref m)]) C dL_law_894 (k := 0) rfl (nI_add (6 * it) 6) (by decide) rfl ?_
          refine k_goto (tgt := 18) C dL_law_897 (by decide) ?_
          refine k_lve (lv' := [(3, .int (nI (6 * (it + 1)))), (0, .ref b), (1, .ref ob), (2, .ref m)]) (by rw [show (6 * it) + 6 = 6 * (it + 1) by omega]) ?_
          refine k_wide (k := 32 + (it + 1) + 2 * tc) (n := 60166 + 14 * (it + 1) + 490 * tc) (by omega) (by omega) ?_
          exact ih18 V (T, E, ne, qk, nv, nn, L0) tc (it + 1) (by omega)  (by omega) hF0 hM0
        · skip
          refine k_val (y := nI 27) (by rw [sw33]) ?_
          refine k_tableOut (tgt := 894) C dL_law_33 (by decide) (by decide) ?_
          refine k_iinc (v := nI ((6 * it) + 6)) (lv' := [(3, .int (nI ((6 * it) + 6))), (0, .ref b), (1, .ref ob), (2, .ref m)]) C dL_law_894 (k := 0) rfl (nI_add (6 * it) 6) (by decide) rfl ?_
          refine k_goto (tgt := 18) C dL_law_897 (by decide) ?_
          refine k_lve (lv' := [(3, .int (nI (6 * (it + 1)))), (0, .ref b), (1, .ref ob), (2, .ref m)]) (by rw [show (6 * it) + 6 = 6 * (it + 1) by omega]) ?_
          refine k_wide (k := 32 + (it + 1) + 2 * tc) (n := 60166 + 14 * (it + 1) + 490 * tc) (by omega) (by omega) ?_
          exact ih18 V (T, E, ne, qk, nv, nn, L0) tc (it + 1) (by omega)  (by omega) hF0 hM0
        · skip
          refine k_val (y := nI 28) (by rw [sw33]) ?_
          refine k_tableOut (tgt := 894) C dL_law_33 (by decide) (by decide) ?_
          refine k_iinc (v := nI ((6 * it) + 6)) (lv' := [(3, .int (nI ((6 * it) + 6))), (0, .ref b), (1, .ref ob), (2, .ref m)]) C dL_law_894 (k := 0) rfl (nI_add (6 * it) 6) (by decide) rfl ?_
          refine k_goto (tgt := 18) C dL_law_897 (by decide) ?_
          refine k_lve (lv' := [(3, .int (nI (6 * (it + 1)))), (0, .ref b), (1, .ref ob), (2, .ref m)]) (by rw [show (6 * it) + 6 = 6 * (it + 1) by omega]) ?_
          refine k_wide (k := 32 + (it + 1) + 2 * tc) (n := 60166 + 14 * (it + 1) + 490 * tc) (by omega) (by omega) ?_
          exact ih18 V (T, E, ne, qk, nv, nn, L0) tc (it + 1) (by omega)  (by omega) hF0 hM0
        · skip
          refine k_val (y := nI 29) (by rw [sw33]) ?_
          refine k_tableOut (tgt := 894) C dL_law_33 (by decide) (by decide) ?_
          refine k_iinc (v := nI ((6 * it) + 6)) (lv' := [(3, .int (nI ((6 * it) + 6))), (0, .ref b), (1, .ref ob), (2, .ref m)]) C dL_law_894 (k := 0) rfl (nI_add (6 * it) 6) (by decide) rfl ?_
          refine k_goto (tgt := 18) C dL_law_897 (by decide) ?_
          refine k_lve (lv' := [(3, .int (nI (6 * (it + 1)))), (0, .ref b), (1, .ref ob), (2, .ref m)]) (by rw [show (6 * it) + 6 = 6 * (it + 1) by omega]) ?_
          refine k_wide (k := 32 + (it + 1) + 2 * tc) (n := 60166 + 14 * (it + 1) + 490 * tc) (by omega) (by omega) ?_
          exact ih18 V (T, E, ne, qk, nv, nn, L0) tc (it + 1) (by omega)  (by omega) hF0 hM0
        · skip
          refine k_val (y := nI 30) (by rw [sw33]) ?_
          refine k_tableOut (tgt := 894) C dL_law_33 (by decide) (by decide) ?_
          refine k_iinc (v := nI ((6 * it) + 6)) (lv' := [(3, .int (nI ((6 * it) + 6))), (0, .ref b), (1, .ref ob), (2, .ref m)]) C dL_law_894 (k := 0) rfl (nI_add (6 * it) 6) (by decide) rfl ?_
          refine k_goto (tgt := 18) C dL_law_897 (by decide) ?_
          refine k_lve (lv' := [(3, .int (nI (6 * (it + 1)))), (0, .ref b), (1, .ref ob), (2, .ref m)]) (by rw [show (6 * it) + 6 = 6 * (it + 1) by omega]) ?_
          refine k_wide (k := 32 + (it + 1) + 2 * tc) (n := 60166 + 14 * (it + 1) + 490 * tc) (by omega) (by omega) ?_
          exact ih18 V (T, E, ne, qk, nv, nn, L0) tc (it + 1) (by omega)  (by omega) hF0 hM0
        · skip
          refine k_val (y := nI 31) (by rw [sw33]) ?_
          refine k_tableOut (tgt := 894) C dL_law_33 (by decide) (by decide) ?_
          refine k_iinc (v := nI ((6 * it) + 6)) (lv' := [(3, .int (nI ((6 * it) + 6))), (0, .ref b), (1, .ref ob), (2, .ref m)]) C dL_law_894 (k := 0) rfl (nI_add (6 * it) 6) (by decide) rfl ?_
          refine k_goto (tgt := 18) C dL_law_897 (by decide) ?_
          refine k_lve (lv' := [(3, .int (nI (6 * (it + 1)))), (0, .ref b), (1, .ref ob), (2, .ref m)]) (by rw [show (6 * it) + 6 = 6 * (it + 1) by omega]) ?_
          refine k_wide (k := 32 + (it + 1) + 2 * tc) (n := 60166 + 14 * (it + 1) + 490 * tc) (by omega) (by omega) ?_
          exact ih18 V (T, E, ne, qk, nv, nn, L0) tc (it + 1) (by omega)  (by omega) hF0 hM0
  exact L18 _ V0 z0 0 0 (Nat.lt_succ_self _)  (by omega) hFi hMi
