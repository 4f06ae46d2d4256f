set_option maxHeartbeats 16000000 in
set_option maxRecDepth 100000 in
theorem k_law {zp : Program} {zl : Launch} {ze : Env} {zs : State} {zm : MethodId} {zbelow : List Frame} {zmeth : Method} {zc : Code} {D : va_G} {cI cN cR : ClassId} {b L : Nat} {xs : Nat → Int32} (C : gv_C zp zs zm #[Value.ref b] zc code 4 "AlgebraTreeLaw" D [(cI, .int), (cN, .object "AlgebraTree$Node"), (cR, .object "AlgebraTree$Rows")] zs.heap.size) (hr : zmeth.sig.returnType = ret) (hlocks : zmeth.locks = false) (hX : va_X b L xs zs zs.heap) (hbl : b < zs.heap.size) (hbA : ¬ zs.heap.size ≤ b) (hL : L ≤ 3072) {V0 : gv_V} (hV0 : ∀ q, V0 q = none) : K zp zl ze room_1 zs zm #[Value.ref b] zbelow zmeth zc D zs.heap.size 4 (lw_Z zbelow #[Value.ref b] zs) V0 0 0 [(0, .ref b)] 0 [] := by
  refine k_new C nw_L_7 (Nat.le_of_ble_eq_true rfl) (Nat.le_of_ble_eq_true rfl) dL_law_0 (fun q1 hq1 => ?_)
  refine k_dup C dL_law_3 rfl ?_
  refine k_callI C mi_L_9 (c_X6_init (O := fun q => ¬ q = q1) gv_up_s (fun q0 hq0 e => by rw [e] at hq0; rw [gv_up_s] at hq0; cases hq0) (fun h => h rfl)) rfl rfl (by simp [Value.category]) ⟨Nat.le_of_ble_eq_true rfl, Nat.le_of_ble_eq_true rfl⟩ ⟨Nat.le_of_ble_eq_true rfl, Nat.le_of_ble_eq_true rfl⟩ dL_law_4 (fun zv W0 zh => ?_)
  obtain ⟨rfl, hF0, hfr0, hns0⟩ := zh
  obtain ⟨obf0, h_ob0⟩ := FC.obj hF0
  refine k_pc (pc' := 7) (st' := [.ref q1]) rfl rfl ?_
  refine k_astore_n (lv' := [(1, .ref q1), (0, .ref b)]) C dL_law_7 rfl (by decide) rfl ?_
  refine k_new C nw_L_10 (Nat.le_of_ble_eq_true rfl) (Nat.le_of_ble_eq_true rfl) dL_law_8 (fun q2 hq2 => ?_)
  have ne3 : nq q1 q2 := gv_nf hq2 h_ob0
  refine k_dup C dL_law_11 rfl ?_
  refine k_callI C mi_L_12 (c_X7_init  gv_up_s ) rfl rfl (by simp [Value.category]) ⟨Nat.le_of_ble_eq_true rfl, Nat.le_of_ble_eq_true rfl⟩ ⟨(Nat.le_of_ble_eq_true rfl), (Nat.le_of_ble_eq_true rfl)⟩ dL_law_12 (fun zv zV zh => ?_)
  obtain ⟨wt_w4, wa_w4, wv_w4, wm_w4, wr_w4, wc_w4, wn_w4, ws_w4, wk_w4, wp_w4, rfl, rfl, hwt_w4, hwa_w4, hwv_w4, hwm_w4, hwr_w4, hwc_w4, hwn_w4, hws_w4, hwk_w4, hwp_w4, hnd0_w4⟩ := zh
  refine k_pc (pc' := 15) (st' := [.ref q2]) rfl rfl ?_
  have ne5 : nq q1 wt_w4 := gv_nf hwt_w4 ((gv_up_n ne3).trans h_ob0)
  have ne6 : nq q2 wt_w4 := gv_nf hwt_w4 gv_up_s
  have ne7 : nq q1 wa_w4 := gv_nf hwa_w4 ((gv_up_n ne3).trans h_ob0)
  have ne8 : nq q2 wa_w4 := gv_nf hwa_w4 gv_up_s
  have ne9 : nq q1 wv_w4 := gv_nf hwv_w4 ((gv_up_n ne3).trans h_ob0)
  have ne10 : nq q2 wv_w4 := gv_nf hwv_w4 gv_up_s
  have ne11 : nq q1 wm_w4 := gv_nf hwm_w4 ((gv_up_n ne3).trans h_ob0)
  have ne12 : nq q2 wm_w4 := gv_nf hwm_w4 gv_up_s
  have ne13 : nq q1 wr_w4 := gv_nf hwr_w4 ((gv_up_n ne3).trans h_ob0)
  have ne14 : nq q2 wr_w4 := gv_nf hwr_w4 gv_up_s
  have ne15 : nq q1 wc_w4 := gv_nf hwc_w4 ((gv_up_n ne3).trans h_ob0)
  have ne16 : nq q2 wc_w4 := gv_nf hwc_w4 gv_up_s
  have ne17 : nq q1 wn_w4 := gv_nf hwn_w4 ((gv_up_n ne3).trans h_ob0)
  have ne18 : nq q2 wn_w4 := gv_nf hwn_w4 gv_up_s
  have ne19 : nq q1 ws_w4 := gv_nf hws_w4 ((gv_up_n ne3).trans h_ob0)
  have ne20 : nq q2 ws_w4 := gv_nf hws_w4 gv_up_s
  have ne21 : nq q1 wk_w4 := gv_nf hwk_w4 ((gv_up_n ne3).trans h_ob0)
  have ne22 : nq q2 wk_w4 := gv_nf hwk_w4 gv_up_s
  have ne23 : nq q1 wp_w4 := gv_nf hwp_w4 ((gv_up_n ne3).trans h_ob0)
  have ne24 : nq q2 wp_w4 := gv_nf hwp_w4 gv_up_s
  refine k_view (V1 := gv_up (gv_up (gv_up (gv_up (gv_up (gv_up (gv_up (gv_up (gv_up (gv_up (gv_up W0 q2 (.inr (7, [.int 0, .ref wt_w4, .int 0, .ref wa_w4, .ref wv_w4, .int 0, .ref wm_w4, .int (nI 1), .ref wr_w4, .ref wc_w4, .ref wn_w4, .int 0, .ref ws_w4, .ref wk_w4, .ref wp_w4]))) wt_w4 (.inl (cI, 240, .inl (fun _ => 0)))) wa_w4 (.inl (cI, 90, .inl (fun _ => 0)))) wv_w4 (.inl (cI, 30, .inl (fun _ => 0)))) wm_w4 (.inl (cI, 180, .inl (fun _ => 0)))) wr_w4 (.inl (cI, 57600, .inl (fun _ => 0)))) wc_w4 (.inl (cI, 120, .inl (fun _ => 0)))) wn_w4 (.inl (cI, 6, .inl (fun _ => 0)))) ws_w4 (.inl (cI, 480, .inl (fun _ => 0)))) wk_w4 (.inl (cI, 80, .inl (fun _ => 0)))) wp_w4 (.inl (cI, 80, .inl (fun _ => 0)))) (congrArg (fun W => gv_up W wp_w4 (.inl (cI, 80, .inl (fun _ => 0)))) (congrArg (fun W => gv_up W wk_w4 (.inl (cI, 80, .inl (fun _ => 0)))) (congrArg (fun W => gv_up W ws_w4 (.inl (cI, 480, .inl (fun _ => 0)))) (congrArg (fun W => gv_up W wn_w4 (.inl (cI, 6, .inl (fun _ => 0)))) (congrArg (fun W => gv_up W wc_w4 (.inl (cI, 120, .inl (fun _ => 0)))) (congrArg (fun W => gv_up W wr_w4 (.inl (cI, 57600, .inl (fun _ => 0)))) (congrArg (fun W => gv_up W wm_w4 (.inl (cI, 180, .inl (fun _ => 0)))) (congrArg (fun W => gv_up W wv_w4 (.inl (cI, 30, .inl (fun _ => 0)))) (congrArg (fun W => gv_up W wa_w4 (.inl (cI, 90, .inl (fun _ => 0)))) (congrArg (fun W => gv_up W wt_w4 (.inl (cI, 240, .inl (fun _ => 0)))) gv_uu)))))))))) ?_
  refine k_astore_n (lv' := [(2, .ref q2), (1, .ref q1), (0, .ref b)]) C dL_law_15 rfl (by decide) rfl ?_
  refine k_iconst (v := nI 0) C dL_law_16 rfl ?_
  refine k_istore_n (lv' := [(3, .int (nI 0)), (2, .ref q2), (1, .ref q1), (0, .ref b)]) C dL_law_17 rfl (by decide) rfl ?_
  have hob : ¬ MO q2 wt_w4 wa_w4 wv_w4 wm_w4 wr_w4 wc_w4 wn_w4 ws_w4 wk_w4 wp_w4 q1 := by
    have hn : ∀ w, W0 w = none → ¬ q1 = w := fun w hw e => by rw [← e, h_ob0] at hw; cases hw
    rintro (h | h | h | h | h | h | h | h | h | h | h)
    · exact hn _ hq2 h
    · exact hn _ (gv_none hwt_w4).2 h
    · exact hn _ (gv_none hwa_w4).2 h
    · exact hn _ (gv_none hwv_w4).2 h
    · exact hn _ (gv_none hwm_w4).2 h
    · exact hn _ (gv_none hwr_w4).2 h
    · exact hn _ (gv_none hwc_w4).2 h
    · exact hn _ (gv_none hwn_w4).2 h
    · exact hn _ (gv_none hws_w4).2 h
    · exact hn _ (gv_none hwk_w4).2 h
    · exact hn _ (gv_none hwp_w4).2 h
  have hMi : MZ cI (gv_up (gv_up (gv_up (gv_up (gv_up (gv_up (gv_up (gv_up (gv_up (gv_up (gv_up W0 q2 (.inr (7, [.int 0, .ref wt_w4, .int 0, .ref wa_w4, .ref wv_w4, .int 0, .ref wm_w4, .int (nI 1), .ref wr_w4, .ref wc_w4, .ref wn_w4, .int 0, .ref ws_w4, .ref wk_w4, .ref wp_w4]))) wt_w4 (.inl (cI, 240, .inl (fun _ => 0)))) wa_w4 (.inl (cI, 90, .inl (fun _ => 0)))) wv_w4 (.inl (cI, 30, .inl (fun _ => 0)))) wm_w4 (.inl (cI, 180, .inl (fun _ => 0)))) wr_w4 (.inl (cI, 57600, .inl (fun _ => 0)))) wc_w4 (.inl (cI, 120, .inl (fun _ => 0)))) wn_w4 (.inl (cI, 6, .inl (fun _ => 0)))) ws_w4 (.inl (cI, 480, .inl (fun _ => 0)))) wk_w4 (.inl (cI, 80, .inl (fun _ => 0)))) wp_w4 (.inl (cI, 80, .inl (fun _ => 0)))) q2 wt_w4 wa_w4 wv_w4 wm_w4 wr_w4 wc_w4 wn_w4 ws_w4 wk_w4 wp_w4 ([], (fun _ => (0, 0, 0)), 0, (fun _ => 0), (fun _ _ => 0), 0, []) := ⟨nI 1, fun _ => 0, fun _ => 0, fun _ => 0, fun _ => 0, fun _ => 0, fun _ => 0, fun _ => 0, fun _ => 0, fun _ => 0, fun _ => 0, ((gv_up_n ne24).trans ((gv_up_n ne22).trans ((gv_up_n ne20).trans ((gv_up_n ne18).trans ((gv_up_n ne16).trans ((gv_up_n ne14).trans ((gv_up_n ne12).trans ((gv_up_n ne10).trans ((gv_up_n ne8).trans ((gv_up_n ne6).trans gv_up_s)))))))))), ((gv_up_n (ndp hnd0_w4 0 9 rfl rfl (by decide))).trans ((gv_up_n (ndp hnd0_w4 0 8 rfl rfl (by decide))).trans ((gv_up_n (ndp hnd0_w4 0 7 rfl rfl (by decide))).trans ((gv_up_n (ndp hnd0_w4 0 6 rfl rfl (by decide))).trans ((gv_up_n (ndp hnd0_w4 0 5 rfl rfl (by decide))).trans ((gv_up_n (ndp hnd0_w4 0 4 rfl rfl (by decide))).trans ((gv_up_n (ndp hnd0_w4 0 3 rfl rfl (by decide))).trans ((gv_up_n (ndp hnd0_w4 0 2 rfl rfl (by decide))).trans ((gv_up_n (ndp hnd0_w4 0 1 rfl rfl (by decide))).trans gv_up_s))))))))), ((gv_up_n (ndp hnd0_w4 1 9 rfl rfl (by decide))).trans ((gv_up_n (ndp hnd0_w4 1 8 rfl rfl (by decide))).trans ((gv_up_n (ndp hnd0_w4 1 7 rfl rfl (by decide))).trans ((gv_up_n (ndp hnd0_w4 1 6 rfl rfl (by decide))).trans ((gv_up_n (ndp hnd0_w4 1 5 rfl rfl (by decide))).trans ((gv_up_n (ndp hnd0_w4 1 4 rfl rfl (by decide))).trans ((gv_up_n (ndp hnd0_w4 1 3 rfl rfl (by decide))).trans ((gv_up_n (ndp hnd0_w4 1 2 rfl rfl (by decide))).trans gv_up_s)))))))), ((gv_up_n (ndp hnd0_w4 2 9 rfl rfl (by decide))).trans ((gv_up_n (ndp hnd0_w4 2 8 rfl rfl (by decide))).trans ((gv_up_n (ndp hnd0_w4 2 7 rfl rfl (by decide))).trans ((gv_up_n (ndp hnd0_w4 2 6 rfl rfl (by decide))).trans ((gv_up_n (ndp hnd0_w4 2 5 rfl rfl (by decide))).trans ((gv_up_n (ndp hnd0_w4 2 4 rfl rfl (by decide))).trans ((gv_up_n (ndp hnd0_w4 2 3 rfl rfl (by decide))).trans gv_up_s))))))), ((gv_up_n (ndp hnd0_w4 3 9 rfl rfl (by decide))).trans ((gv_up_n (ndp hnd0_w4 3 8 rfl rfl (by decide))).trans ((gv_up_n (ndp hnd0_w4 3 7 rfl rfl (by decide))).trans ((gv_up_n (ndp hnd0_w4 3 6 rfl rfl (by decide))).trans ((gv_up_n (ndp hnd0_w4 3 5 rfl rfl (by decide))).trans ((gv_up_n (ndp hnd0_w4 3 4 rfl rfl (by decide))).trans gv_up_s)))))), ((gv_up_n (ndp hnd0_w4 4 9 rfl rfl (by decide))).trans ((gv_up_n (ndp hnd0_w4 4 8 rfl rfl (by decide))).trans ((gv_up_n (ndp hnd0_w4 4 7 rfl rfl (by decide))).trans ((gv_up_n (ndp hnd0_w4 4 6 rfl rfl (by decide))).trans ((gv_up_n (ndp hnd0_w4 4 5 rfl rfl (by decide))).trans gv_up_s))))), ((gv_up_n (ndp hnd0_w4 5 9 rfl rfl (by decide))).trans ((gv_up_n (ndp hnd0_w4 5 8 rfl rfl (by decide))).trans ((gv_up_n (ndp hnd0_w4 5 7 rfl rfl (by decide))).trans ((gv_up_n (ndp hnd0_w4 5 6 rfl rfl (by decide))).trans gv_up_s)))), ((gv_up_n (ndp hnd0_w4 6 9 rfl rfl (by decide))).trans ((gv_up_n (ndp hnd0_w4 6 8 rfl rfl (by decide))).trans ((gv_up_n (ndp hnd0_w4 6 7 rfl rfl (by decide))).trans gv_up_s))), ((gv_up_n (ndp hnd0_w4 7 9 rfl rfl (by decide))).trans ((gv_up_n (ndp hnd0_w4 7 8 rfl rfl (by decide))).trans gv_up_s)), ((gv_up_n (ndp hnd0_w4 8 9 rfl rfl (by decide))).trans gv_up_s), gv_up_s, (ndp hnd0_w4 8 9 rfl rfl (by decide)), ⟨rfl, by decide, fun i hi => absurd hi (Nat.not_lt_zero _)⟩, ⟨by decide, fun k hk => absurd hk (Nat.not_lt_zero _)⟩, by decide, fun k hk => absurd hk (Nat.not_lt_zero _), fun k hk => absurd hk (Nat.not_lt_zero _), Or.inr ⟨rfl, fun j z hj => absurd hj (Nat.not_lt_zero _)⟩, rfl, by decide, fun i hi => absurd hi (Nat.not_lt_zero _)⟩
  have hkp : ∀ q x, W0 q = some x → (gv_up (gv_up (gv_up (gv_up (gv_up (gv_up (gv_up (gv_up (gv_up (gv_up (gv_up W0 q2 (.inr (7, [.int 0, .ref wt_w4, .int 0, .ref wa_w4, .ref wv_w4, .int 0, .ref wm_w4, .int (nI 1), .ref wr_w4, .ref wc_w4, .ref wn_w4, .int 0, .ref ws_w4, .ref wk_w4, .ref wp_w4]))) wt_w4 (.inl (cI, 240, .inl (fun _ => 0)))) wa_w4 (.inl (cI, 90, .inl (fun _ => 0)))) wv_w4 (.inl (cI, 30, .inl (fun _ => 0)))) wm_w4 (.inl (cI, 180, .inl (fun _ => 0)))) wr_w4 (.inl (cI, 57600, .inl (fun _ => 0)))) wc_w4 (.inl (cI, 120, .inl (fun _ => 0)))) wn_w4 (.inl (cI, 6, .inl (fun _ => 0)))) ws_w4 (.inl (cI, 480, .inl (fun _ => 0)))) wk_w4 (.inl (cI, 80, .inl (fun _ => 0)))) wp_w4 (.inl (cI, 80, .inl (fun _ => 0)))) q = some x := fun q x hq => by
    have hn : ∀ w, W0 w = none → ¬ q = w := fun w hw e => by rw [e, hw] at hq; cases hq
    exact ((gv_up_n (hn _ (gv_none hwp_w4).2)).trans ((gv_up_n (hn _ (gv_none hwk_w4).2)).trans ((gv_up_n (hn _ (gv_none hws_w4).2)).trans ((gv_up_n (hn _ (gv_none hwn_w4).2)).trans ((gv_up_n (hn _ (gv_none hwc_w4).2)).trans ((gv_up_n (hn _ (gv_none hwr_w4).2)).trans ((gv_up_n (hn _ (gv_none hwm_w4).2)).trans ((gv_up_n (hn _ (gv_none hwv_w4).2)).trans ((gv_up_n (hn _ (gv_none hwa_w4).2)).trans ((gv_up_n (hn _ (gv_none hwt_w4).2)).trans ((gv_up_n (hn _ hq2)).trans hq)))))))))))
  have hFi : FZ cI cN cR (lO q1 q2 wt_w4 wa_w4 wv_w4 wm_w4 wr_w4 wc_w4 wn_w4 ws_w4 wk_w4 wp_w4) (gv_up (gv_up (gv_up (gv_up (gv_up (gv_up (gv_up (gv_up (gv_up (gv_up (gv_up W0 q2 (.inr (7, [.int 0, .ref wt_w4, .int 0, .ref wa_w4, .ref wv_w4, .int 0, .ref wm_w4, .int (nI 1), .ref wr_w4, .ref wc_w4, .ref wn_w4, .int 0, .ref ws_w4, .ref wk_w4, .ref wp_w4]))) wt_w4 (.inl (cI, 240, .inl (fun _ => 0)))) wa_w4 (.inl (cI, 90, .inl (fun _ => 0)))) wv_w4 (.inl (cI, 30, .inl (fun _ => 0)))) wm_w4 (.inl (cI, 180, .inl (fun _ => 0)))) wr_w4 (.inl (cI, 57600, .inl (fun _ => 0)))) wc_w4 (.inl (cI, 120, .inl (fun _ => 0)))) wn_w4 (.inl (cI, 6, .inl (fun _ => 0)))) ws_w4 (.inl (cI, 480, .inl (fun _ => 0)))) wk_w4 (.inl (cI, 80, .inl (fun _ => 0)))) wp_w4 (.inl (cI, 80, .inl (fun _ => 0)))) q1 ([], (fun _ => (0, 0, 0)), 0, (fun _ => 0), (fun _ _ => 0), 0, []) 0 := by
    refine FC.mv hF0 (fun q x hq hx => ⟨⟨hq, ?_⟩, hkp q x hx⟩) (fun q hq => ⟨fun e => ?_, fun hm => MC.ns hMi hm hq⟩) ((hkp _ _ h_ob0).trans h_ob0.symm) (fun h => h.1 rfl)
    · have hn : ∀ w, W0 w = none → ¬ q = w := fun w hw e => by rw [e, hw] at hx; cases hx
      rintro (h | h | h | h | h | h | h | h | h | h | h)
      · exact hn _ hq2 h
      · exact hn _ (gv_none hwt_w4).2 h
      · exact hn _ (gv_none hwa_w4).2 h
      · exact hn _ (gv_none hwv_w4).2 h
      · exact hn _ (gv_none hwm_w4).2 h
      · exact hn _ (gv_none hwr_w4).2 h
      · exact hn _ (gv_none hwc_w4).2 h
      · exact hn _ (gv_none hwn_w4).2 h
      · exact hn _ (gv_none hws_w4).2 h
      · exact hn _ (gv_none hwk_w4).2 h
      · exact hn _ (gv_none hwp_w4).2 h
    · rw [e, hkp _ _ h_ob0] at hq; cases hq
  refine k_sub [0, 3, 2, 1] (lv' := [(3, .int (nI 0)), (0, .ref b), (1, .ref q1), (2, .ref q2)]) rfl ?_
  refine k_lve (lv' := [(3, .int (nI (6 * 0))), (0, .ref b), (1, .ref q1), (2, .ref q2)]) rfl ?_
  refine k_wide (k := 32 + 0 + 2 * 0) (n := 60166 + 14 * 0 + 490 * 0) (Nat.le_of_ble_eq_true rfl) (Nat.le_of_ble_eq_true rfl) ?_
  exact k_loop C hr hlocks hX hbl hbA hL hob hFi hMi
/-- the law, from its entry -/
theorem law_K {s : State} {args : Array Value} (hts : ∀ w ∈ gv_tbl, w.before args s = true) : ∃ (D : va_G) (cI cN cR : ClassId), va_K D classes [(cI, .int), (cN, .object "AlgebraTree$Node"), (cR, .object "AlgebraTree$Rows")] s := by
  obtain ⟨c0, iS0, hKn0⟩ := u_known (C := RX0) (T := TX0) (N := 6) (n := 6) hts in_0 (hts _ wd_98)
  obtain ⟨c1, iS1, hKn1⟩ := u_known (C := RX1) (T := TX1) (N := 7) (n := 7) hts in_1 (hts _ wd_64)
  obtain ⟨c2, iS2, hKn2⟩ := u_known (C := RX2) (T := TX2) (N := 14) (n := 14) hts in_2 (hts _ wd_266)
  obtain ⟨c3, iS3, hKn3⟩ := u_known (C := RX3) (T := TX3) (N := 2) (n := 2) hts in_3 (hts _ wd_123)
  obtain ⟨c4, iS4, hKn4⟩ := u_known (C := RX4) (T := TX4) (N := 4) (n := 4) hts in_4 (hts _ wd_165)
  obtain ⟨c5, iS5, hKn5⟩ := u_known (C := RX5) (T := TX5) (N := 5) (n := 5) hts in_5 (hts _ wd_70)
  obtain ⟨c6, iS6, hKn6⟩ := u_known (C := RX6) (T := TX6) (N := 5) (n := 5) hts in_6 (hts _ wd_56)
  obtain ⟨c7, iS7, hKn7⟩ := u_known (C := RX7) (T := TX7) (N := 15) (n := 15) hts in_7 (hts _ wd_622)
  obtain ⟨cI, kI, compI, hI1, hI2, hI3⟩ := Cond.arrayClass_spec (hts _ wd_96)
  obtain ⟨compN, cN, kN, hN1, hN2, hN3, hN4, hN5⟩ := Cond.arrayOver_spec (hts _ wd_129)
  obtain ⟨compR, cR, kR, hR1, hR2, hR3, hR4, hR5⟩ := Cond.arrayOver_spec (hts _ wd_138)
  refine ⟨(fun k => if k = 0 then c0 else if k = 1 then c1 else if k = 2 then c2 else if k = 3 then c3 else if k = 4 then c4 else if k = 5 then c5 else if k = 6 then c6 else c7, fun k => if k = 0 then iS0 else if k = 1 then iS1 else if k = 2 then iS2 else if k = 3 then iS3 else if k = 4 then iS4 else if k = 5 then iS5 else if k = 6 then iS6 else iS7), cI, cN, cR, fun k q hq => ?_, fun k q hq => ?_⟩
  · match k, hq with
    | 0, hq => cases hq; exact hKn0
    | 1, hq => cases hq; exact hKn1
    | 2, hq => cases hq; exact hKn2
    | 3, hq => cases hq; exact hKn3
    | 4, hq => cases hq; exact hKn4
    | 5, hq => cases hq; exact hKn5
    | 6, hq => cases hq; exact hKn6
    | 7, hq => cases hq; exact hKn7
    | k + 8, hq => simp [classes, vwCl] at hq
  · match k, hq with
    | 0, hq => cases hq; exact ⟨fun n z => ⟨fun k h => (by cases h), kI, hI2, compI, hI3⟩, hI1⟩
    | 1, hq => cases hq; exact ⟨fun n z => ⟨fun k h => (by cases h), kN, hN3, compN, hN4⟩, kN, compN, hN3, hN4, hN1, hN5⟩
    | 2, hq => cases hq; exact ⟨fun n z => ⟨fun k h => (by cases h), kR, hR3, compR, hR4⟩, kR, compR, hR3, hR4, hR1, hR5⟩
    | k + 3, hq => simp at hq
theorem whole_start {p : Program} {e : Env} {s : State} {m : MethodId} {below : List Frame} {meth : Method} {c : Code} (l : Launch) {b L : Nat} {xs : Nat → Int32} (hL : L ≤ 3072) (C0 : lw_At p s m meth c b L xs) : W p l e room_1 s m #[Value.ref b] below meth c s.heap [] 0 0 (lw_Z below #[Value.ref b] s) (entryFrame m ([Value.ref b] : List Value).toArray 4) := by
  obtain ⟨hx, hb, hr, hml, hown, hts, hX, hbl, hlocks, hgv⟩ := C0
  have hts2 : ∀ w ∈ gv_tbl, w.before #[Value.ref b] s = true := fun w hw => hts w (List.mem_filter.mp hw).1
  obtain ⟨D, cI, cN, cR, hK⟩ := law_K hts2
  have hl := lv_entry ([.ref b]) (n := 4) (Nat.le_of_ble_eq_true rfl)
  rw [lg_entry_eq]
  exact k_law (V0 := fun _ => none) ⟨hx, hb, hml, hown, hts2, hK, Nat.le_refl _⟩ hr hlocks hX hbl (Nat.not_le.mpr hbl) hL (fun _ => rfl) s.heap [] _ (fun q x h => by cases h) va_S.rf hl
