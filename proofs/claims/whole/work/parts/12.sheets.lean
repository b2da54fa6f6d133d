/-! ===== sheets; what changed ===== -/

/-! X6_sheet -/
def T_X6_sheet : jT := fun vs K h Q => match vs with
  | [.ref r0, .int s, .int l, .int n] => r0 = 0 ∧ (jX K ∧ (¬ ((0 ≤ s ∧ s ≤ 3) ∧ (0 ≤ l ∧ l ≤ 2) ∧ n ≤ 60) → Q (some (.int (-1))) K h) ∧ ((0 ≤ s ∧ s ≤ 3) ∧ (0 ≤ l ∧ l ≤ 2) ∧ n ≤ 60 → (n < 0 → Q (some (.int (-14))) K h) ∧ (¬ n < 0 → Q (some (.int n)) K (jhold h (29 + 2 * s.toNatClampNeg) l n))))
  | _ => False
def sg_X6_sheet_0 : jS := [(o_iload 1, 1), (o_call 1 T_X6_isSheet, 3), (o_ifeq 20, 3), (o_iload 2, 1), (o_call 1 T_X6_isLane, 3), (o_ifeq 20, 3), (o_iload 3, 1), (o_ic (60), 2), (o_icle 22, 3), (o_ic (-1), 1), (o_ireti, 1)]
def sg_X6_sheet_20 : jS := [(o_ic (-1), 1), (o_ireti, 1)]
def sg_X6_sheet_22 : jS := [(o_iload 3, 1), (o_ifge 29, 3), (o_ic (-14), 2), (o_ireti, 1)]
def sg_X6_sheet_29 : jS := [(o_aload 0, 1), (o_getf 6 6, 3), (o_iload 1, 1), (o_aald 3, 1), (o_iload 2, 1), (o_iload 3, 1), (o_callV 3 5 T_X5_hold, 3), (o_iload 3, 1), (o_ireti, 1)]
def cd_X6_sheet : Nat → jS := fun t => match t with
  | 20 => sg_X6_sheet_20
  | 22 => sg_X6_sheet_22
  | 29 => sg_X6_sheet_29
  | _ => []
theorem wl_X6_sheet_50 : Cond.fieldLink RX6 50 (TX6 6).1 (TX6 6).2.1 (TX6 6).2.2.1 ∈ wsX6_sheet := by decide +kernel
theorem wi_X6_sheet_X6 : ∀ w ∈ u_ws RX6 TX6 9, w ∈ wsX6_sheet := by decide +kernel
def E_X6_sheet (Γ : jΓ) (Q : jPost) : Prop := Γ.2.2.2.2.2.2.2.2.2.2.1 = 4 ∧ Γ.2.2.2.2.2.2.2.2.2.2.2.1 = vwCl ∧ jC Γ cX6_sheet RX6 "sheet" (some .int) wsX6_sheet 2 45 0 0 ∧ jR Γ Q 0 0
theorem oo_X6_sheet_0 {Γ : jΓ} {Q : jPost} (E : E_X6_sheet Γ Q) : jSA Γ Q 0 (o_iload 1) 1 := so_iload_n E.2.2.1 rfl dX6_sheet_0
theorem oo_X6_sheet_1 {Γ : jΓ} {Q : jPost} (E : E_X6_sheet Γ Q) : jSA Γ Q 1 (o_call 1 T_X6_isSheet) 3 := so_callS E.2.2.1 gX6_sheet_X6_isSheet (by decide +kernel) rfl (by rw [E.2.1]; exact m_X6_isSheet _) (by decide) (by decide) dX6_sheet_1
theorem oo_X6_sheet_4 {Γ : jΓ} {Q : jPost} (E : E_X6_sheet Γ Q) : jSA Γ Q 4 (o_ifeq 20) 3 := so_ifeq E.2.2.1 (by decide) dX6_sheet_4
theorem oo_X6_sheet_7 {Γ : jΓ} {Q : jPost} (E : E_X6_sheet Γ Q) : jSA Γ Q 7 (o_iload 2) 1 := so_iload_n E.2.2.1 rfl dX6_sheet_7
theorem oo_X6_sheet_8 {Γ : jΓ} {Q : jPost} (E : E_X6_sheet Γ Q) : jSA Γ Q 8 (o_call 1 T_X6_isLane) 3 := so_callS E.2.2.1 gX6_sheet_X6_isLane (by decide +kernel) rfl (by rw [E.2.1]; exact m_X6_isLane _) (by decide) (by decide) dX6_sheet_8
theorem oo_X6_sheet_11 {Γ : jΓ} {Q : jPost} (E : E_X6_sheet Γ Q) : jSA Γ Q 11 (o_ifeq 20) 3 := so_ifeq E.2.2.1 (by decide) dX6_sheet_11
theorem oo_X6_sheet_14 {Γ : jΓ} {Q : jPost} (E : E_X6_sheet Γ Q) : jSA Γ Q 14 (o_iload 3) 1 := so_iload_n E.2.2.1 rfl dX6_sheet_14
theorem oo_X6_sheet_15 {Γ : jΓ} {Q : jPost} (E : E_X6_sheet Γ Q) : jSA Γ Q 15 (o_ic (60)) 2 := so_bipush E.2.2.1 rfl dX6_sheet_15
theorem oo_X6_sheet_17 {Γ : jΓ} {Q : jPost} (E : E_X6_sheet Γ Q) : jSA Γ Q 17 (o_icle 22) 3 := so_icle E.2.2.1 (by decide) dX6_sheet_17
theorem oo_X6_sheet_20 {Γ : jΓ} {Q : jPost} (E : E_X6_sheet Γ Q) : jSA Γ Q 20 (o_ic (-1)) 1 := so_iconst E.2.2.1 rfl dX6_sheet_20
theorem oo_X6_sheet_21 {Γ : jΓ} {Q : jPost} (E : E_X6_sheet Γ Q) : jSA Γ Q 21 (o_ireti) 1 := so_ireti E.2.2.1 E.2.2.2 dX6_sheet_21
theorem oo_X6_sheet_22 {Γ : jΓ} {Q : jPost} (E : E_X6_sheet Γ Q) : jSA Γ Q 22 (o_iload 3) 1 := so_iload_n E.2.2.1 rfl dX6_sheet_22
theorem oo_X6_sheet_23 {Γ : jΓ} {Q : jPost} (E : E_X6_sheet Γ Q) : jSA Γ Q 23 (o_ifge 29) 3 := so_ifge E.2.2.1 (by decide) dX6_sheet_23
theorem oo_X6_sheet_26 {Γ : jΓ} {Q : jPost} (E : E_X6_sheet Γ Q) : jSA Γ Q 26 (o_ic (-14)) 2 := so_bipush E.2.2.1 rfl dX6_sheet_26
theorem oo_X6_sheet_28 {Γ : jΓ} {Q : jPost} (E : E_X6_sheet Γ Q) : jSA Γ Q 28 (o_ireti) 1 := so_ireti E.2.2.1 E.2.2.2 dX6_sheet_28
theorem oo_X6_sheet_29 {Γ : jΓ} {Q : jPost} (E : E_X6_sheet Γ Q) : jSA Γ Q 29 (o_aload 0) 1 := so_aload_n E.2.2.1 rfl dX6_sheet_29
theorem oo_X6_sheet_30 {Γ : jΓ} {Q : jPost} (E : E_X6_sheet Γ Q) : jSA Γ Q 30 (o_getf 6 6) 3 := so_getf (ci := 6) E.2.2.1 wi_X6_sheet_X6 (by rw [E.2.1]; rfl) 6 (by decide) wl_X6_sheet_50 dX6_sheet_30
theorem oo_X6_sheet_33 {Γ : jΓ} {Q : jPost} (E : E_X6_sheet Γ Q) : jSA Γ Q 33 (o_iload 1) 1 := so_iload_n E.2.2.1 rfl dX6_sheet_33
theorem oo_X6_sheet_34 {Γ : jΓ} {Q : jPost} (E : E_X6_sheet Γ Q) : jSA Γ Q 34 (o_aald 3) 1 := so_aald3 E.2.2.1 dX6_sheet_34
theorem oo_X6_sheet_35 {Γ : jΓ} {Q : jPost} (E : E_X6_sheet Γ Q) : jSA Γ Q 35 (o_iload 2) 1 := so_iload_n E.2.2.1 rfl dX6_sheet_35
theorem oo_X6_sheet_36 {Γ : jΓ} {Q : jPost} (E : E_X6_sheet Γ Q) : jSA Γ Q 36 (o_iload 3) 1 := so_iload_n E.2.2.1 rfl dX6_sheet_36
theorem oo_X6_sheet_37 {Γ : jΓ} {Q : jPost} (E : E_X6_sheet Γ Q) : jSA Γ Q 37 (o_callV 3 5 T_X5_hold) 3 := so_callV E.2.2.1 (ci := 5) (by rw [E.2.1]; rfl) gX6_sheet_X5_hold (by decide +kernel) rfl (by rw [E.2.1]; exact m_X5_hold _) (by decide) (by decide) dX6_sheet_37
theorem oo_X6_sheet_40 {Γ : jΓ} {Q : jPost} (E : E_X6_sheet Γ Q) : jSA Γ Q 40 (o_iload 3) 1 := so_iload_n E.2.2.1 rfl dX6_sheet_40
theorem oo_X6_sheet_41 {Γ : jΓ} {Q : jPost} (E : E_X6_sheet Γ Q) : jSA Γ Q 41 (o_ireti) 1 := so_ireti E.2.2.1 E.2.2.2 dX6_sheet_41
theorem ok_X6_sheet_0 {Γ : jΓ} {Q : jPost} (E : E_X6_sheet Γ Q) : jSS Γ Q 0 sg_X6_sheet_0 := ⟨oo_X6_sheet_0 E, oo_X6_sheet_1 E, oo_X6_sheet_4 E, oo_X6_sheet_7 E, oo_X6_sheet_8 E, oo_X6_sheet_11 E, oo_X6_sheet_14 E, oo_X6_sheet_15 E, oo_X6_sheet_17 E, oo_X6_sheet_20 E, oo_X6_sheet_21 E, trivial⟩
theorem ok_X6_sheet_20 {Γ : jΓ} {Q : jPost} (E : E_X6_sheet Γ Q) : jSS Γ Q 20 sg_X6_sheet_20 := ⟨oo_X6_sheet_20 E, oo_X6_sheet_21 E, trivial⟩
theorem ok_X6_sheet_22 {Γ : jΓ} {Q : jPost} (E : E_X6_sheet Γ Q) : jSS Γ Q 22 sg_X6_sheet_22 := ⟨oo_X6_sheet_22 E, oo_X6_sheet_23 E, oo_X6_sheet_26 E, oo_X6_sheet_28 E, trivial⟩
theorem ok_X6_sheet_29 {Γ : jΓ} {Q : jPost} (E : E_X6_sheet Γ Q) : jSS Γ Q 29 sg_X6_sheet_29 := ⟨oo_X6_sheet_29 E, oo_X6_sheet_30 E, oo_X6_sheet_33 E, oo_X6_sheet_34 E, oo_X6_sheet_35 E, oo_X6_sheet_36 E, oo_X6_sheet_37 E, oo_X6_sheet_40 E, oo_X6_sheet_41 E, trivial⟩
theorem okc_X6_sheet {Γ : jΓ} {Q : jPost} (E : E_X6_sheet Γ Q) (t : Nat) : jSS Γ Q t (cd_X6_sheet t) := by
  unfold cd_X6_sheet
  split
  · exact ok_X6_sheet_20 E
  · exact ok_X6_sheet_22 E
  · exact ok_X6_sheet_29 E
  · trivial
theorem m_X6_sheet_of (l : Launch) (hv : ∀ (G : jGt) (Q : jPost) (vs : List Value) (K : List jK) (h : jM), jHd cd_X6_sheet G Q sg_X6_sheet_0 0 → T_X6_sheet vs K h Q → (lg_sl vs).length ≤ 4 ∧ G 0 (jinit vs 4) [] K h 0 0) : jHolds vwCl l yX6_sheet wsX6_sheet 2 45 0 0 T_X6_sheet := by
  refine jMet (cc := cX6_sheet) (maxL := 4) (rt := (some .int)) (by decide +kernel) rfl (fun Γ Q vs K h hl hn hcl C hR hT => hv (jG Γ) Q vs K h ?_ hT)
  · exact fun n L st K h ce sl => jwp_ok (okc_X6_sheet ⟨hn, hcl, C, hR⟩) n sg_X6_sheet_0 0 (ok_X6_sheet_0 ⟨hn, hcl, C, hR⟩) L st K h ce sl
set_option maxHeartbeats 4000000 in
set_option maxRecDepth 100000 in
theorem v_X6_sheet {G : jGt} {Q : jPost} {K : List jK} {h : jM} {s : Int32} {l : Int32} {n : Int32} (hT : jX K ∧ (¬ ((0 ≤ s ∧ s ≤ 3) ∧ (0 ≤ l ∧ l ≤ 2) ∧ n ≤ 60) → Q (some (.int (-1))) K h) ∧ ((0 ≤ s ∧ s ≤ 3) ∧ (0 ≤ l ∧ l ≤ 2) ∧ n ≤ 60 → (n < 0 → Q (some (.int (-14))) K h) ∧ (¬ n < 0 → Q (some (.int n)) K (jhold h (29 + 2 * s.toNatClampNeg) l n)))) (H0 : jHd cd_X6_sheet G Q sg_X6_sheet_0 0) : G 0 [some (.ref 0), some (.int s), some (.int l), some (.int n)] [] K h 0 0 := by
  obtain ⟨hX, hT0, hT1⟩ := hT
  refine H0 80 _ _ _ _ _ _ ?_
  by_cases c1 : 0 ≤ s ∧ s ≤ 3
  · obtain ⟨j, hj, rfl⟩ := sh_of c1
    have h31 : j < 2147483648 := by omega
    have hv : vp_in (nI j) 4 := vp_in_nI hj (by decide)
    have hS : isSh (29 + 2 * j) := ⟨j, hj, rfl⟩
    have h9 : 29 + 2 * j + 1 = 30 + 2 * j := by omega
    by_cases c2 : 0 ≤ l ∧ l ≤ 2
    · by_cases c3 : n ≤ 60
      · obtain ⟨hT1, hT2⟩ := hT1 ⟨c1, c2, c3⟩
        rw [nI_clamp h31] at hT2
        by_cases c4 : n < 0
        · have hT1 := hT1 c4
          simp only [sg_X6_sheet_0, sg_X6_sheet_20, sg_X6_sheet_22, sg_X6_sheet_29, cd_X6_sheet, jwp, o_ic, o_lc, o_iload, o_lload, o_aload, o_istore, o_lstore, o_astore, o_iinc, o_pop, o_dup, o_dup2, o_iadd, o_isub, o_imul, o_iand, o_ior, o_ishl, o_ladd, o_lmul, o_land, o_lor, o_idiv, o_irem, o_ineg, o_i2l, o_l2i, o_i2b, o_i2s, o_lushr, o_lshr, o_lshl, o_lcmp, o_ifeq, o_ifne, o_iflt, o_ifge, o_ifgt, o_ifle, o_iceq, o_icne, o_iclt, o_icge, o_icgt, o_icle, o_goto, o_tsw, jsw, o_lsw, jlk, o_getf, o_putf, o_putz, o_iald, o_zald, o_iast, o_zast, o_aald, o_alen, o_gets, o_zld, o_zlen, o_cpy, o_call, o_callV, o_ireti, o_iretz, o_lret, o_vret, jg, js, jkp, jkill, jsp, jcs, jfw, jov, Value.category, Option.toList_some, Option.toList_none, List.nil_append, List.cons_append, List.append_nil, Nat.reduceAdd, true_and, and_true, jb0, jb01, jb1, jem, true_or, or_true, Classical.not_not, forall_const, List.length_cons, List.length_nil, Nat.reduceLeDiff, Nat.zero_le, Nat.reduceLT, and_self, not_true_eq_false, not_false_eq_true, false_imp_iff, true_imp_iff, implies_true, and_false, false_and, or_false, false_or, hX, kx_0_0 hX, kx_0_1 hX, kx_0_2 hX, kx_0_3 hX, kx_0_4 hX, kx_0_5 hX, kx_0_6 hX, kx_0_7 hX, kx_0_8 hX, kxo_0 hX, kx_1_0 hX, kx_1_1 hX, kx_1_2 hX, kx_1_3 hX, kxo_1 hX, kx_4_0 hX, kx_4_1 hX, kx_4_2 hX, kxo_4 hX, kx_19_0 hX, kx_19_1 hX, kx_19_2 hX, kx_19_3 hX, kx_19_4 hX, kxo_19 hX, kx_24_0 hX, kx_24_1 hX, kx_24_2 hX, kx_24_3 hX, kx_24_4 hX, kx_24_5 hX, kx_24_6 hX, kxo_24 hX, kxa_2 hX, kxa_3 hX, kxa_6 hX, kxa_7 hX, kxa_8 hX, kxa_9 hX, kxa_10 hX, kxa_18 hX, kxa_20 hX, kxa_21 hX, kxa_22 hX, kxa_23 hX, kxa_26 hX, kxa_27 hX, kxr_5 hX, kxr_11 hX, kxr_28 hX, T_X6_isSheet, T_X6_isLane, c1, c2, c3, c4, Int32.not_le.mpr c4]
          exact hT1
        · have hT2 := hT2 c4
          simp only [sg_X6_sheet_0, sg_X6_sheet_20, sg_X6_sheet_22, sg_X6_sheet_29, cd_X6_sheet, jwp, o_ic, o_lc, o_iload, o_lload, o_aload, o_istore, o_lstore, o_astore, o_iinc, o_pop, o_dup, o_dup2, o_iadd, o_isub, o_imul, o_iand, o_ior, o_ishl, o_ladd, o_lmul, o_land, o_lor, o_idiv, o_irem, o_ineg, o_i2l, o_l2i, o_i2b, o_i2s, o_lushr, o_lshr, o_lshl, o_lcmp, o_ifeq, o_ifne, o_iflt, o_ifge, o_ifgt, o_ifle, o_iceq, o_icne, o_iclt, o_icge, o_icgt, o_icle, o_goto, o_tsw, jsw, o_lsw, jlk, o_getf, o_putf, o_putz, o_iald, o_zald, o_iast, o_zast, o_aald, o_alen, o_gets, o_zld, o_zlen, o_cpy, o_call, o_callV, o_ireti, o_iretz, o_lret, o_vret, jg, js, jkp, jkill, jsp, jcs, jfw, jov, Value.category, Option.toList_some, Option.toList_none, List.nil_append, List.cons_append, List.append_nil, Nat.reduceAdd, true_and, and_true, jb0, jb01, jb1, jem, true_or, or_true, Classical.not_not, forall_const, List.length_cons, List.length_nil, Nat.reduceLeDiff, Nat.zero_le, Nat.reduceLT, and_self, not_true_eq_false, not_false_eq_true, false_imp_iff, true_imp_iff, implies_true, and_false, false_and, or_false, false_or, hX, kx_0_0 hX, kx_0_1 hX, kx_0_2 hX, kx_0_3 hX, kx_0_4 hX, kx_0_5 hX, kx_0_6 hX, kx_0_7 hX, kx_0_8 hX, kxo_0 hX, kx_1_0 hX, kx_1_1 hX, kx_1_2 hX, kx_1_3 hX, kxo_1 hX, kx_4_0 hX, kx_4_1 hX, kx_4_2 hX, kxo_4 hX, kx_19_0 hX, kx_19_1 hX, kx_19_2 hX, kx_19_3 hX, kx_19_4 hX, kxo_19 hX, kx_24_0 hX, kx_24_1 hX, kx_24_2 hX, kx_24_3 hX, kx_24_4 hX, kx_24_5 hX, kx_24_6 hX, kxo_24 hX, kxa_2 hX, kxa_3 hX, kxa_6 hX, kxa_7 hX, kxa_8 hX, kxa_9 hX, kxa_10 hX, kxa_18 hX, kxa_20 hX, kxa_21 hX, kxa_22 hX, kxa_23 hX, kxa_26 hX, kxa_27 hX, kxr_5 hX, kxr_11 hX, kxr_28 hX, T_X6_isSheet, T_X6_isLane, T_X5_hold, c1, c2, c3, Int32.not_lt.mp c4, nI_clamp h31, kx_shs hj, hv, hS, kxs_0 hX hj, kxs_1 hX hj, kxs_2 hX hj, kxs_o hX hj, kxs_a hX hj]
          exact hT2
      · have hT0 := hT0 (fun z => c3 z.2.2)
        simp only [sg_X6_sheet_0, sg_X6_sheet_20, sg_X6_sheet_22, sg_X6_sheet_29, cd_X6_sheet, jwp, o_ic, o_lc, o_iload, o_lload, o_aload, o_istore, o_lstore, o_astore, o_iinc, o_pop, o_dup, o_dup2, o_iadd, o_isub, o_imul, o_iand, o_ior, o_ishl, o_ladd, o_lmul, o_land, o_lor, o_idiv, o_irem, o_ineg, o_i2l, o_l2i, o_i2b, o_i2s, o_lushr, o_lshr, o_lshl, o_lcmp, o_ifeq, o_ifne, o_iflt, o_ifge, o_ifgt, o_ifle, o_iceq, o_icne, o_iclt, o_icge, o_icgt, o_icle, o_goto, o_tsw, jsw, o_lsw, jlk, o_getf, o_putf, o_putz, o_iald, o_zald, o_iast, o_zast, o_aald, o_alen, o_gets, o_zld, o_zlen, o_cpy, o_call, o_callV, o_ireti, o_iretz, o_lret, o_vret, jg, js, jkp, jkill, jsp, jcs, jfw, jov, Value.category, Option.toList_some, Option.toList_none, List.nil_append, List.cons_append, List.append_nil, Nat.reduceAdd, true_and, and_true, jb0, jb01, jb1, jem, true_or, or_true, Classical.not_not, forall_const, List.length_cons, List.length_nil, Nat.reduceLeDiff, Nat.zero_le, Nat.reduceLT, and_self, not_true_eq_false, not_false_eq_true, false_imp_iff, true_imp_iff, implies_true, and_false, false_and, or_false, false_or, hX, kx_0_0 hX, kx_0_1 hX, kx_0_2 hX, kx_0_3 hX, kx_0_4 hX, kx_0_5 hX, kx_0_6 hX, kx_0_7 hX, kx_0_8 hX, kxo_0 hX, kx_1_0 hX, kx_1_1 hX, kx_1_2 hX, kx_1_3 hX, kxo_1 hX, kx_4_0 hX, kx_4_1 hX, kx_4_2 hX, kxo_4 hX, kx_19_0 hX, kx_19_1 hX, kx_19_2 hX, kx_19_3 hX, kx_19_4 hX, kxo_19 hX, kx_24_0 hX, kx_24_1 hX, kx_24_2 hX, kx_24_3 hX, kx_24_4 hX, kx_24_5 hX, kx_24_6 hX, kxo_24 hX, kxa_2 hX, kxa_3 hX, kxa_6 hX, kxa_7 hX, kxa_8 hX, kxa_9 hX, kxa_10 hX, kxa_18 hX, kxa_20 hX, kxa_21 hX, kxa_22 hX, kxa_23 hX, kxa_26 hX, kxa_27 hX, kxr_5 hX, kxr_11 hX, kxr_28 hX, T_X6_isSheet, T_X6_isLane, c1, c2, c3]
        exact hT0
    · have hT0 := hT0 (fun z => c2 z.2.1)
      simp only [sg_X6_sheet_0, sg_X6_sheet_20, sg_X6_sheet_22, sg_X6_sheet_29, cd_X6_sheet, jwp, o_ic, o_lc, o_iload, o_lload, o_aload, o_istore, o_lstore, o_astore, o_iinc, o_pop, o_dup, o_dup2, o_iadd, o_isub, o_imul, o_iand, o_ior, o_ishl, o_ladd, o_lmul, o_land, o_lor, o_idiv, o_irem, o_ineg, o_i2l, o_l2i, o_i2b, o_i2s, o_lushr, o_lshr, o_lshl, o_lcmp, o_ifeq, o_ifne, o_iflt, o_ifge, o_ifgt, o_ifle, o_iceq, o_icne, o_iclt, o_icge, o_icgt, o_icle, o_goto, o_tsw, jsw, o_lsw, jlk, o_getf, o_putf, o_putz, o_iald, o_zald, o_iast, o_zast, o_aald, o_alen, o_gets, o_zld, o_zlen, o_cpy, o_call, o_callV, o_ireti, o_iretz, o_lret, o_vret, jg, js, jkp, jkill, jsp, jcs, jfw, jov, Value.category, Option.toList_some, Option.toList_none, List.nil_append, List.cons_append, List.append_nil, Nat.reduceAdd, true_and, and_true, jb0, jb01, jb1, jem, true_or, or_true, Classical.not_not, forall_const, List.length_cons, List.length_nil, Nat.reduceLeDiff, Nat.zero_le, Nat.reduceLT, and_self, not_true_eq_false, not_false_eq_true, false_imp_iff, true_imp_iff, implies_true, and_false, false_and, or_false, false_or, hX, kx_0_0 hX, kx_0_1 hX, kx_0_2 hX, kx_0_3 hX, kx_0_4 hX, kx_0_5 hX, kx_0_6 hX, kx_0_7 hX, kx_0_8 hX, kxo_0 hX, kx_1_0 hX, kx_1_1 hX, kx_1_2 hX, kx_1_3 hX, kxo_1 hX, kx_4_0 hX, kx_4_1 hX, kx_4_2 hX, kxo_4 hX, kx_19_0 hX, kx_19_1 hX, kx_19_2 hX, kx_19_3 hX, kx_19_4 hX, kxo_19 hX, kx_24_0 hX, kx_24_1 hX, kx_24_2 hX, kx_24_3 hX, kx_24_4 hX, kx_24_5 hX, kx_24_6 hX, kxo_24 hX, kxa_2 hX, kxa_3 hX, kxa_6 hX, kxa_7 hX, kxa_8 hX, kxa_9 hX, kxa_10 hX, kxa_18 hX, kxa_20 hX, kxa_21 hX, kxa_22 hX, kxa_23 hX, kxa_26 hX, kxa_27 hX, kxr_5 hX, kxr_11 hX, kxr_28 hX, T_X6_isSheet, T_X6_isLane, c1, c2]
      exact hT0
  · have hT0 := hT0 (fun z => c1 z.1)
    simp only [sg_X6_sheet_0, sg_X6_sheet_20, sg_X6_sheet_22, sg_X6_sheet_29, cd_X6_sheet, jwp, o_ic, o_lc, o_iload, o_lload, o_aload, o_istore, o_lstore, o_astore, o_iinc, o_pop, o_dup, o_dup2, o_iadd, o_isub, o_imul, o_iand, o_ior, o_ishl, o_ladd, o_lmul, o_land, o_lor, o_idiv, o_irem, o_ineg, o_i2l, o_l2i, o_i2b, o_i2s, o_lushr, o_lshr, o_lshl, o_lcmp, o_ifeq, o_ifne, o_iflt, o_ifge, o_ifgt, o_ifle, o_iceq, o_icne, o_iclt, o_icge, o_icgt, o_icle, o_goto, o_tsw, jsw, o_lsw, jlk, o_getf, o_putf, o_putz, o_iald, o_zald, o_iast, o_zast, o_aald, o_alen, o_gets, o_zld, o_zlen, o_cpy, o_call, o_callV, o_ireti, o_iretz, o_lret, o_vret, jg, js, jkp, jkill, jsp, jcs, jfw, jov, Value.category, Option.toList_some, Option.toList_none, List.nil_append, List.cons_append, List.append_nil, Nat.reduceAdd, true_and, and_true, jb0, jb01, jb1, jem, true_or, or_true, Classical.not_not, forall_const, List.length_cons, List.length_nil, Nat.reduceLeDiff, Nat.zero_le, Nat.reduceLT, and_self, not_true_eq_false, not_false_eq_true, false_imp_iff, true_imp_iff, implies_true, and_false, false_and, or_false, false_or, hX, kx_0_0 hX, kx_0_1 hX, kx_0_2 hX, kx_0_3 hX, kx_0_4 hX, kx_0_5 hX, kx_0_6 hX, kx_0_7 hX, kx_0_8 hX, kxo_0 hX, kx_1_0 hX, kx_1_1 hX, kx_1_2 hX, kx_1_3 hX, kxo_1 hX, kx_4_0 hX, kx_4_1 hX, kx_4_2 hX, kxo_4 hX, kx_19_0 hX, kx_19_1 hX, kx_19_2 hX, kx_19_3 hX, kx_19_4 hX, kxo_19 hX, kx_24_0 hX, kx_24_1 hX, kx_24_2 hX, kx_24_3 hX, kx_24_4 hX, kx_24_5 hX, kx_24_6 hX, kxo_24 hX, kxa_2 hX, kxa_3 hX, kxa_6 hX, kxa_7 hX, kxa_8 hX, kxa_9 hX, kxa_10 hX, kxa_18 hX, kxa_20 hX, kxa_21 hX, kxa_22 hX, kxa_23 hX, kxa_26 hX, kxa_27 hX, kxr_5 hX, kxr_11 hX, kxr_28 hX, T_X6_isSheet, T_X6_isLane, c1]
    exact hT0
theorem m_X6_sheet (l : Launch) : jHolds vwCl l yX6_sheet wsX6_sheet 2 45 0 0 T_X6_sheet := by
  refine m_X6_sheet_of l (fun G Q vs K h H0 hT => ?_)
  unfold T_X6_sheet at hT
  split at hT
  · obtain ⟨rfl, hT⟩ := hT
    exact ⟨Nat.le_of_ble_eq_true rfl, v_X6_sheet hT H0⟩
  · exact hT.elim

/-! X6_drop -/
def T_X6_drop : jT := fun vs K h Q => match vs with
  | [.ref r0, .int s] => r0 = 0 ∧ (jX K ∧ (¬ (0 ≤ s ∧ s ≤ 3) → Q (some (.int (-1))) K h) ∧ (0 ≤ s ∧ s ≤ 3 → (h (29 + 2 * s.toNatClampNeg) 0 = -1 → Q (some (.int (-11))) K h) ∧ (¬ h (29 + 2 * s.toNatClampNeg) 0 = -1 → Q (some (.int (h (29 + 2 * s.toNatClampNeg) 1))) K (jhold h (29 + 2 * s.toNatClampNeg) (-1) 0))))
  | _ => False
def sg_X6_drop_0 : jS := [(o_iload 1, 1), (o_call 1 T_X6_isSheet, 3), (o_ifne 9, 3), (o_ic (-1), 1), (o_ireti, 1)]
def sg_X6_drop_9 : jS := [(o_aload 0, 1), (o_getf 6 6, 3), (o_iload 1, 1), (o_aald 3, 1), (o_astore 2, 1), (o_aload 2, 1), (o_callV 1 5 T_X5_isNothing, 3), (o_ifeq 26, 3), (o_ic (-11), 2), (o_ireti, 1)]
def sg_X6_drop_26 : jS := [(o_aload 2, 1), (o_getf 5 1, 3), (o_istore 3, 1), (o_aload 2, 1), (o_ic (-1), 1), (o_ic (0), 1), (o_callV 3 5 T_X5_hold, 3), (o_iload 3, 1), (o_ireti, 1)]
def cd_X6_drop : Nat → jS := fun t => match t with
  | 9 => sg_X6_drop_9
  | 26 => sg_X6_drop_26
  | _ => []
theorem wl_X6_drop_50 : Cond.fieldLink RX6 50 (TX6 6).1 (TX6 6).2.1 (TX6 6).2.2.1 ∈ wsX6_drop := by decide +kernel
theorem wl_X6_drop_221 : Cond.fieldLink RX6 221 (TX5 1).1 (TX5 1).2.1 (TX5 1).2.2.1 ∈ wsX6_drop := by decide +kernel
theorem wi_X6_drop_X5 : ∀ w ∈ u_ws RX5 TX5 3, w ∈ wsX6_drop := by decide +kernel
theorem wi_X6_drop_X6 : ∀ w ∈ u_ws RX6 TX6 9, w ∈ wsX6_drop := by decide +kernel
def E_X6_drop (Γ : jΓ) (Q : jPost) : Prop := Γ.2.2.2.2.2.2.2.2.2.2.1 = 4 ∧ Γ.2.2.2.2.2.2.2.2.2.2.2.1 = vwCl ∧ jC Γ cX6_drop RX6 "drop" (some .int) wsX6_drop 2 45 0 0 ∧ jR Γ Q 0 0
theorem oo_X6_drop_0 {Γ : jΓ} {Q : jPost} (E : E_X6_drop Γ Q) : jSA Γ Q 0 (o_iload 1) 1 := so_iload_n E.2.2.1 rfl dX6_drop_0
theorem oo_X6_drop_1 {Γ : jΓ} {Q : jPost} (E : E_X6_drop Γ Q) : jSA Γ Q 1 (o_call 1 T_X6_isSheet) 3 := so_callS E.2.2.1 gX6_drop_X6_isSheet (by decide +kernel) rfl (by rw [E.2.1]; exact m_X6_isSheet _) (by decide) (by decide) dX6_drop_1
theorem oo_X6_drop_4 {Γ : jΓ} {Q : jPost} (E : E_X6_drop Γ Q) : jSA Γ Q 4 (o_ifne 9) 3 := so_ifne E.2.2.1 (by decide) dX6_drop_4
theorem oo_X6_drop_7 {Γ : jΓ} {Q : jPost} (E : E_X6_drop Γ Q) : jSA Γ Q 7 (o_ic (-1)) 1 := so_iconst E.2.2.1 rfl dX6_drop_7
theorem oo_X6_drop_8 {Γ : jΓ} {Q : jPost} (E : E_X6_drop Γ Q) : jSA Γ Q 8 (o_ireti) 1 := so_ireti E.2.2.1 E.2.2.2 dX6_drop_8
theorem oo_X6_drop_9 {Γ : jΓ} {Q : jPost} (E : E_X6_drop Γ Q) : jSA Γ Q 9 (o_aload 0) 1 := so_aload_n E.2.2.1 rfl dX6_drop_9
theorem oo_X6_drop_10 {Γ : jΓ} {Q : jPost} (E : E_X6_drop Γ Q) : jSA Γ Q 10 (o_getf 6 6) 3 := so_getf (ci := 6) E.2.2.1 wi_X6_drop_X6 (by rw [E.2.1]; rfl) 6 (by decide) wl_X6_drop_50 dX6_drop_10
theorem oo_X6_drop_13 {Γ : jΓ} {Q : jPost} (E : E_X6_drop Γ Q) : jSA Γ Q 13 (o_iload 1) 1 := so_iload_n E.2.2.1 rfl dX6_drop_13
theorem oo_X6_drop_14 {Γ : jΓ} {Q : jPost} (E : E_X6_drop Γ Q) : jSA Γ Q 14 (o_aald 3) 1 := so_aald3 E.2.2.1 dX6_drop_14
theorem oo_X6_drop_15 {Γ : jΓ} {Q : jPost} (E : E_X6_drop Γ Q) : jSA Γ Q 15 (o_astore 2) 1 := so_astore_n E.2.2.1 rfl (by rw [E.1]; decide) dX6_drop_15
theorem oo_X6_drop_16 {Γ : jΓ} {Q : jPost} (E : E_X6_drop Γ Q) : jSA Γ Q 16 (o_aload 2) 1 := so_aload_n E.2.2.1 rfl dX6_drop_16
theorem oo_X6_drop_17 {Γ : jΓ} {Q : jPost} (E : E_X6_drop Γ Q) : jSA Γ Q 17 (o_callV 1 5 T_X5_isNothing) 3 := so_callV E.2.2.1 (ci := 5) (by rw [E.2.1]; rfl) gX6_drop_X5_isNothing (by decide +kernel) rfl (by rw [E.2.1]; exact m_X5_isNothing _) (by decide) (by decide) dX6_drop_17
theorem oo_X6_drop_20 {Γ : jΓ} {Q : jPost} (E : E_X6_drop Γ Q) : jSA Γ Q 20 (o_ifeq 26) 3 := so_ifeq E.2.2.1 (by decide) dX6_drop_20
theorem oo_X6_drop_23 {Γ : jΓ} {Q : jPost} (E : E_X6_drop Γ Q) : jSA Γ Q 23 (o_ic (-11)) 2 := so_bipush E.2.2.1 rfl dX6_drop_23
theorem oo_X6_drop_25 {Γ : jΓ} {Q : jPost} (E : E_X6_drop Γ Q) : jSA Γ Q 25 (o_ireti) 1 := so_ireti E.2.2.1 E.2.2.2 dX6_drop_25
theorem oo_X6_drop_26 {Γ : jΓ} {Q : jPost} (E : E_X6_drop Γ Q) : jSA Γ Q 26 (o_aload 2) 1 := so_aload_n E.2.2.1 rfl dX6_drop_26
theorem oo_X6_drop_27 {Γ : jΓ} {Q : jPost} (E : E_X6_drop Γ Q) : jSA Γ Q 27 (o_getf 5 1) 3 := so_getf (ci := 5) E.2.2.1 wi_X6_drop_X5 (by rw [E.2.1]; rfl) 1 (by decide) wl_X6_drop_221 dX6_drop_27
theorem oo_X6_drop_30 {Γ : jΓ} {Q : jPost} (E : E_X6_drop Γ Q) : jSA Γ Q 30 (o_istore 3) 1 := so_istore_n E.2.2.1 rfl (by rw [E.1]; decide) dX6_drop_30
theorem oo_X6_drop_31 {Γ : jΓ} {Q : jPost} (E : E_X6_drop Γ Q) : jSA Γ Q 31 (o_aload 2) 1 := so_aload_n E.2.2.1 rfl dX6_drop_31
theorem oo_X6_drop_32 {Γ : jΓ} {Q : jPost} (E : E_X6_drop Γ Q) : jSA Γ Q 32 (o_ic (-1)) 1 := so_iconst E.2.2.1 rfl dX6_drop_32
theorem oo_X6_drop_33 {Γ : jΓ} {Q : jPost} (E : E_X6_drop Γ Q) : jSA Γ Q 33 (o_ic (0)) 1 := so_iconst E.2.2.1 rfl dX6_drop_33
theorem oo_X6_drop_34 {Γ : jΓ} {Q : jPost} (E : E_X6_drop Γ Q) : jSA Γ Q 34 (o_callV 3 5 T_X5_hold) 3 := so_callV E.2.2.1 (ci := 5) (by rw [E.2.1]; rfl) gX6_drop_X5_hold (by decide +kernel) rfl (by rw [E.2.1]; exact m_X5_hold _) (by decide) (by decide) dX6_drop_34
theorem oo_X6_drop_37 {Γ : jΓ} {Q : jPost} (E : E_X6_drop Γ Q) : jSA Γ Q 37 (o_iload 3) 1 := so_iload_n E.2.2.1 rfl dX6_drop_37
theorem oo_X6_drop_38 {Γ : jΓ} {Q : jPost} (E : E_X6_drop Γ Q) : jSA Γ Q 38 (o_ireti) 1 := so_ireti E.2.2.1 E.2.2.2 dX6_drop_38
theorem ok_X6_drop_0 {Γ : jΓ} {Q : jPost} (E : E_X6_drop Γ Q) : jSS Γ Q 0 sg_X6_drop_0 := ⟨oo_X6_drop_0 E, oo_X6_drop_1 E, oo_X6_drop_4 E, oo_X6_drop_7 E, oo_X6_drop_8 E, trivial⟩
theorem ok_X6_drop_9 {Γ : jΓ} {Q : jPost} (E : E_X6_drop Γ Q) : jSS Γ Q 9 sg_X6_drop_9 := ⟨oo_X6_drop_9 E, oo_X6_drop_10 E, oo_X6_drop_13 E, oo_X6_drop_14 E, oo_X6_drop_15 E, oo_X6_drop_16 E, oo_X6_drop_17 E, oo_X6_drop_20 E, oo_X6_drop_23 E, oo_X6_drop_25 E, trivial⟩
theorem ok_X6_drop_26 {Γ : jΓ} {Q : jPost} (E : E_X6_drop Γ Q) : jSS Γ Q 26 sg_X6_drop_26 := ⟨oo_X6_drop_26 E, oo_X6_drop_27 E, oo_X6_drop_30 E, oo_X6_drop_31 E, oo_X6_drop_32 E, oo_X6_drop_33 E, oo_X6_drop_34 E, oo_X6_drop_37 E, oo_X6_drop_38 E, trivial⟩
theorem okc_X6_drop {Γ : jΓ} {Q : jPost} (E : E_X6_drop Γ Q) (t : Nat) : jSS Γ Q t (cd_X6_drop t) := by
  unfold cd_X6_drop
  split
  · exact ok_X6_drop_9 E
  · exact ok_X6_drop_26 E
  · trivial
theorem m_X6_drop_of (l : Launch) (hv : ∀ (G : jGt) (Q : jPost) (vs : List Value) (K : List jK) (h : jM), jHd cd_X6_drop G Q sg_X6_drop_0 0 → T_X6_drop vs K h Q → (lg_sl vs).length ≤ 4 ∧ G 0 (jinit vs 4) [] K h 0 0) : jHolds vwCl l yX6_drop wsX6_drop 2 45 0 0 T_X6_drop := by
  refine jMet (cc := cX6_drop) (maxL := 4) (rt := (some .int)) (by decide +kernel) rfl (fun Γ Q vs K h hl hn hcl C hR hT => hv (jG Γ) Q vs K h ?_ hT)
  · exact fun n L st K h ce sl => jwp_ok (okc_X6_drop ⟨hn, hcl, C, hR⟩) n sg_X6_drop_0 0 (ok_X6_drop_0 ⟨hn, hcl, C, hR⟩) L st K h ce sl
set_option maxHeartbeats 4000000 in
set_option maxRecDepth 100000 in
theorem v_X6_drop {G : jGt} {Q : jPost} {K : List jK} {h : jM} {s : Int32} (hT : jX K ∧ (¬ (0 ≤ s ∧ s ≤ 3) → Q (some (.int (-1))) K h) ∧ (0 ≤ s ∧ s ≤ 3 → (h (29 + 2 * s.toNatClampNeg) 0 = -1 → Q (some (.int (-11))) K h) ∧ (¬ h (29 + 2 * s.toNatClampNeg) 0 = -1 → Q (some (.int (h (29 + 2 * s.toNatClampNeg) 1))) K (jhold h (29 + 2 * s.toNatClampNeg) (-1) 0)))) (H0 : jHd cd_X6_drop G Q sg_X6_drop_0 0) : G 0 [some (.ref 0), some (.int s), none, none] [] K h 0 0 := by
  obtain ⟨hX, hT0, hT1⟩ := hT
  refine H0 80 _ _ _ _ _ _ ?_
  by_cases c1 : 0 ≤ s ∧ s ≤ 3
  · obtain ⟨j, hj, rfl⟩ := sh_of c1
    have h31 : j < 2147483648 := by omega
    have hv : vp_in (nI j) 4 := vp_in_nI hj (by decide)
    have hS : isSh (29 + 2 * j) := ⟨j, hj, rfl⟩
    have h9 : 29 + 2 * j + 1 = 30 + 2 * j := by omega
    have hT1 := hT1 c1
    rw [nI_clamp h31] at hT1
    simp only [sg_X6_drop_0, sg_X6_drop_9, sg_X6_drop_26, cd_X6_drop, jwp, o_ic, o_lc, o_iload, o_lload, o_aload, o_istore, o_lstore, o_astore, o_iinc, o_pop, o_dup, o_dup2, o_iadd, o_isub, o_imul, o_iand, o_ior, o_ishl, o_ladd, o_lmul, o_land, o_lor, o_idiv, o_irem, o_ineg, o_i2l, o_l2i, o_i2b, o_i2s, o_lushr, o_lshr, o_lshl, o_lcmp, o_ifeq, o_ifne, o_iflt, o_ifge, o_ifgt, o_ifle, o_iceq, o_icne, o_iclt, o_icge, o_icgt, o_icle, o_goto, o_tsw, jsw, o_lsw, jlk, o_getf, o_putf, o_putz, o_iald, o_zald, o_iast, o_zast, o_aald, o_alen, o_gets, o_zld, o_zlen, o_cpy, o_call, o_callV, o_ireti, o_iretz, o_lret, o_vret, jg, js, jkp, jkill, jsp, jcs, jfw, jov, Value.category, Option.toList_some, Option.toList_none, List.nil_append, List.cons_append, List.append_nil, Nat.reduceAdd, true_and, and_true, jb0, jb01, jb1, jem, true_or, or_true, Classical.not_not, forall_const, List.length_cons, List.length_nil, Nat.reduceLeDiff, Nat.zero_le, Nat.reduceLT, and_self, not_true_eq_false, not_false_eq_true, false_imp_iff, true_imp_iff, implies_true, and_false, false_and, or_false, false_or, hX, kx_0_0 hX, kx_0_1 hX, kx_0_2 hX, kx_0_3 hX, kx_0_4 hX, kx_0_5 hX, kx_0_6 hX, kx_0_7 hX, kx_0_8 hX, kxo_0 hX, kx_1_0 hX, kx_1_1 hX, kx_1_2 hX, kx_1_3 hX, kxo_1 hX, kx_4_0 hX, kx_4_1 hX, kx_4_2 hX, kxo_4 hX, kx_19_0 hX, kx_19_1 hX, kx_19_2 hX, kx_19_3 hX, kx_19_4 hX, kxo_19 hX, kx_24_0 hX, kx_24_1 hX, kx_24_2 hX, kx_24_3 hX, kx_24_4 hX, kx_24_5 hX, kx_24_6 hX, kxo_24 hX, kxa_2 hX, kxa_3 hX, kxa_6 hX, kxa_7 hX, kxa_8 hX, kxa_9 hX, kxa_10 hX, kxa_18 hX, kxa_20 hX, kxa_21 hX, kxa_22 hX, kxa_23 hX, kxa_26 hX, kxa_27 hX, kxr_5 hX, kxr_11 hX, kxr_28 hX, T_X6_isSheet, T_X5_isNothing, T_X5_hold, c1, nI_clamp h31, kx_shs hj, hv, hS, kxs_0 hX hj, kxs_1 hX hj, kxs_2 hX hj, kxs_o hX hj, kxs_a hX hj]
    exact ⟨hT1.2, hT1.1⟩
  · have hT0 := hT0 c1
    simp only [sg_X6_drop_0, sg_X6_drop_9, sg_X6_drop_26, cd_X6_drop, jwp, o_ic, o_lc, o_iload, o_lload, o_aload, o_istore, o_lstore, o_astore, o_iinc, o_pop, o_dup, o_dup2, o_iadd, o_isub, o_imul, o_iand, o_ior, o_ishl, o_ladd, o_lmul, o_land, o_lor, o_idiv, o_irem, o_ineg, o_i2l, o_l2i, o_i2b, o_i2s, o_lushr, o_lshr, o_lshl, o_lcmp, o_ifeq, o_ifne, o_iflt, o_ifge, o_ifgt, o_ifle, o_iceq, o_icne, o_iclt, o_icge, o_icgt, o_icle, o_goto, o_tsw, jsw, o_lsw, jlk, o_getf, o_putf, o_putz, o_iald, o_zald, o_iast, o_zast, o_aald, o_alen, o_gets, o_zld, o_zlen, o_cpy, o_call, o_callV, o_ireti, o_iretz, o_lret, o_vret, jg, js, jkp, jkill, jsp, jcs, jfw, jov, Value.category, Option.toList_some, Option.toList_none, List.nil_append, List.cons_append, List.append_nil, Nat.reduceAdd, true_and, and_true, jb0, jb01, jb1, jem, true_or, or_true, Classical.not_not, forall_const, List.length_cons, List.length_nil, Nat.reduceLeDiff, Nat.zero_le, Nat.reduceLT, and_self, not_true_eq_false, not_false_eq_true, false_imp_iff, true_imp_iff, implies_true, and_false, false_and, or_false, false_or, hX, kx_0_0 hX, kx_0_1 hX, kx_0_2 hX, kx_0_3 hX, kx_0_4 hX, kx_0_5 hX, kx_0_6 hX, kx_0_7 hX, kx_0_8 hX, kxo_0 hX, kx_1_0 hX, kx_1_1 hX, kx_1_2 hX, kx_1_3 hX, kxo_1 hX, kx_4_0 hX, kx_4_1 hX, kx_4_2 hX, kxo_4 hX, kx_19_0 hX, kx_19_1 hX, kx_19_2 hX, kx_19_3 hX, kx_19_4 hX, kxo_19 hX, kx_24_0 hX, kx_24_1 hX, kx_24_2 hX, kx_24_3 hX, kx_24_4 hX, kx_24_5 hX, kx_24_6 hX, kxo_24 hX, kxa_2 hX, kxa_3 hX, kxa_6 hX, kxa_7 hX, kxa_8 hX, kxa_9 hX, kxa_10 hX, kxa_18 hX, kxa_20 hX, kxa_21 hX, kxa_22 hX, kxa_23 hX, kxa_26 hX, kxa_27 hX, kxr_5 hX, kxr_11 hX, kxr_28 hX, T_X6_isSheet, c1]
    exact hT0
theorem m_X6_drop (l : Launch) : jHolds vwCl l yX6_drop wsX6_drop 2 45 0 0 T_X6_drop := by
  refine m_X6_drop_of l (fun G Q vs K h H0 hT => ?_)
  unfold T_X6_drop at hT
  split at hT
  · obtain ⟨rfl, hT⟩ := hT
    exact ⟨Nat.le_of_ble_eq_true rfl, v_X6_drop hT H0⟩
  · exact hT.elim

/-! X6_item -/
theorem in_of_le {i n : Int32} (h : 0 ≤ i ∧ i ≤ n - 1) (hn : 0 ≤ n.toInt ∧ n.toInt ≤ 60) : vp_in i 60 := by
  have e1 : (0 : Int) ≤ i.toInt := le_of_lit h.1
  have e2 : i.toInt ≤ (n - 1).toInt := le_of_lit h.2
  have e4 : (n - 1).toInt = n.toInt - 1 := ti_sub (by show _ ≤ n.toInt - (1 : Int); omega) (by show n.toInt - (1 : Int) < _; omega)
  exact vp_in_iff.mpr ⟨e1, by omega⟩
def T_X6_item : jT := fun vs K h Q => match vs with
  | [.ref r0, .int s, .int l, .int i, .int v] => r0 = 0 ∧ (jX K ∧ (¬ ((0 ≤ s ∧ s ≤ 3) ∧ (0 ≤ l ∧ l ≤ 2)) → Q (some (.int (-1))) K h) ∧ ((0 ≤ s ∧ s ≤ 3) ∧ (0 ≤ l ∧ l ≤ 2) → (0 ≤ (h (29 + 2 * s.toNatClampNeg) 1).toInt ∧ (h (29 + 2 * s.toNatClampNeg) 1).toInt ≤ 60) ∧ (¬ jfound (h (29 + 2 * s.toNatClampNeg) 0) l = 0 → Q (some (.int (jfound (h (29 + 2 * s.toNatClampNeg) 0) l))) K h) ∧ (jfound (h (29 + 2 * s.toNatClampNeg) 0) l = 0 → (¬ (0 ≤ i ∧ i ≤ h (29 + 2 * s.toNatClampNeg) 1 - 1) → Q (some (.int (-13))) K h) ∧ (0 ≤ i ∧ i ≤ h (29 + 2 * s.toNatClampNeg) 1 - 1 → Q (some (.int 1)) K (up2 h (30 + 2 * s.toNatClampNeg) i.toNatClampNeg (jlow (h (29 + 2 * s.toNatClampNeg) 0).toInt v))))))
  | _ => False
def sg_X6_item_0 : jS := [(o_iload 1, 1), (o_call 1 T_X6_isSheet, 3), (o_ifeq 14, 3), (o_iload 2, 1), (o_call 1 T_X6_isLane, 3), (o_ifne 16, 3), (o_ic (-1), 1), (o_ireti, 1)]
def sg_X6_item_14 : jS := [(o_ic (-1), 1), (o_ireti, 1)]
def sg_X6_item_16 : jS := [(o_aload 0, 1), (o_getf 6 6, 3), (o_iload 1, 1), (o_aald 3, 1), (o_astore 5, 2), (o_aload 5, 2), (o_iload 2, 1), (o_callV 2 5 T_X5_foundAs, 3), (o_istore 6, 2), (o_iload 6, 2), (o_ifeq 40, 3), (o_iload 6, 2), (o_ireti, 1)]
def sg_X6_item_40 : jS := [(o_aload 5, 2), (o_iload 3, 1), (o_ic (1), 1), (o_callV 3 5 T_X5_hasItems, 3), (o_ifne 53, 3), (o_ic (-13), 2), (o_ireti, 1)]
def sg_X6_item_53 : jS := [(o_aload 5, 2), (o_getf 5 2, 3), (o_iload 3, 1), (o_aload 5, 2), (o_iload 4, 2), (o_callV 2 5 T_X5_lowestBits, 3), (o_iast, 1), (o_ic (1), 1), (o_ireti, 1)]
def cd_X6_item : Nat → jS := fun t => match t with
  | 14 => sg_X6_item_14
  | 16 => sg_X6_item_16
  | 40 => sg_X6_item_40
  | 53 => sg_X6_item_53
  | _ => []
theorem wl_X6_item_50 : Cond.fieldLink RX6 50 (TX6 6).1 (TX6 6).2.1 (TX6 6).2.2.1 ∈ wsX6_item := by decide +kernel
theorem wl_X6_item_230 : Cond.fieldLink RX6 230 (TX5 2).1 (TX5 2).2.1 (TX5 2).2.2.1 ∈ wsX6_item := by decide +kernel
theorem wi_X6_item_X5 : ∀ w ∈ u_ws RX5 TX5 3, w ∈ wsX6_item := by decide +kernel
theorem wi_X6_item_X6 : ∀ w ∈ u_ws RX6 TX6 9, w ∈ wsX6_item := by decide +kernel
def E_X6_item (Γ : jΓ) (Q : jPost) : Prop := Γ.2.2.2.2.2.2.2.2.2.2.1 = 7 ∧ Γ.2.2.2.2.2.2.2.2.2.2.2.1 = vwCl ∧ jC Γ cX6_item RX6 "item" (some .int) wsX6_item 2 42 0 0 ∧ jR Γ Q 0 0
theorem oo_X6_item_0 {Γ : jΓ} {Q : jPost} (E : E_X6_item Γ Q) : jSA Γ Q 0 (o_iload 1) 1 := so_iload_n E.2.2.1 rfl dX6_item_0
theorem oo_X6_item_1 {Γ : jΓ} {Q : jPost} (E : E_X6_item Γ Q) : jSA Γ Q 1 (o_call 1 T_X6_isSheet) 3 := so_callS E.2.2.1 gX6_item_X6_isSheet (by decide +kernel) rfl (by rw [E.2.1]; exact m_X6_isSheet _) (by decide) (by decide) dX6_item_1
theorem oo_X6_item_4 {Γ : jΓ} {Q : jPost} (E : E_X6_item Γ Q) : jSA Γ Q 4 (o_ifeq 14) 3 := so_ifeq E.2.2.1 (by decide) dX6_item_4
theorem oo_X6_item_7 {Γ : jΓ} {Q : jPost} (E : E_X6_item Γ Q) : jSA Γ Q 7 (o_iload 2) 1 := so_iload_n E.2.2.1 rfl dX6_item_7
theorem oo_X6_item_8 {Γ : jΓ} {Q : jPost} (E : E_X6_item Γ Q) : jSA Γ Q 8 (o_call 1 T_X6_isLane) 3 := so_callS E.2.2.1 gX6_item_X6_isLane (by decide +kernel) rfl (by rw [E.2.1]; exact m_X6_isLane _) (by decide) (by decide) dX6_item_8
theorem oo_X6_item_11 {Γ : jΓ} {Q : jPost} (E : E_X6_item Γ Q) : jSA Γ Q 11 (o_ifne 16) 3 := so_ifne E.2.2.1 (by decide) dX6_item_11
theorem oo_X6_item_14 {Γ : jΓ} {Q : jPost} (E : E_X6_item Γ Q) : jSA Γ Q 14 (o_ic (-1)) 1 := so_iconst E.2.2.1 rfl dX6_item_14
theorem oo_X6_item_15 {Γ : jΓ} {Q : jPost} (E : E_X6_item Γ Q) : jSA Γ Q 15 (o_ireti) 1 := so_ireti E.2.2.1 E.2.2.2 dX6_item_15
theorem oo_X6_item_16 {Γ : jΓ} {Q : jPost} (E : E_X6_item Γ Q) : jSA Γ Q 16 (o_aload 0) 1 := so_aload_n E.2.2.1 rfl dX6_item_16
theorem oo_X6_item_17 {Γ : jΓ} {Q : jPost} (E : E_X6_item Γ Q) : jSA Γ Q 17 (o_getf 6 6) 3 := so_getf (ci := 6) E.2.2.1 wi_X6_item_X6 (by rw [E.2.1]; rfl) 6 (by decide) wl_X6_item_50 dX6_item_17
theorem oo_X6_item_20 {Γ : jΓ} {Q : jPost} (E : E_X6_item Γ Q) : jSA Γ Q 20 (o_iload 1) 1 := so_iload_n E.2.2.1 rfl dX6_item_20
theorem oo_X6_item_21 {Γ : jΓ} {Q : jPost} (E : E_X6_item Γ Q) : jSA Γ Q 21 (o_aald 3) 1 := so_aald3 E.2.2.1 dX6_item_21
theorem oo_X6_item_22 {Γ : jΓ} {Q : jPost} (E : E_X6_item Γ Q) : jSA Γ Q 22 (o_astore 5) 2 := so_astore E.2.2.1 (by rw [E.1]; decide) dX6_item_22
theorem oo_X6_item_24 {Γ : jΓ} {Q : jPost} (E : E_X6_item Γ Q) : jSA Γ Q 24 (o_aload 5) 2 := so_aload E.2.2.1 dX6_item_24
theorem oo_X6_item_26 {Γ : jΓ} {Q : jPost} (E : E_X6_item Γ Q) : jSA Γ Q 26 (o_iload 2) 1 := so_iload_n E.2.2.1 rfl dX6_item_26
theorem oo_X6_item_27 {Γ : jΓ} {Q : jPost} (E : E_X6_item Γ Q) : jSA Γ Q 27 (o_callV 2 5 T_X5_foundAs) 3 := so_callV E.2.2.1 (ci := 5) (by rw [E.2.1]; rfl) gX6_item_X5_foundAs (by decide +kernel) rfl (by rw [E.2.1]; exact m_X5_foundAs _) (by decide) (by decide) dX6_item_27
theorem oo_X6_item_30 {Γ : jΓ} {Q : jPost} (E : E_X6_item Γ Q) : jSA Γ Q 30 (o_istore 6) 2 := so_istore E.2.2.1 (by rw [E.1]; decide) dX6_item_30
theorem oo_X6_item_32 {Γ : jΓ} {Q : jPost} (E : E_X6_item Γ Q) : jSA Γ Q 32 (o_iload 6) 2 := so_iload E.2.2.1 dX6_item_32
theorem oo_X6_item_34 {Γ : jΓ} {Q : jPost} (E : E_X6_item Γ Q) : jSA Γ Q 34 (o_ifeq 40) 3 := so_ifeq E.2.2.1 (by decide) dX6_item_34
theorem oo_X6_item_37 {Γ : jΓ} {Q : jPost} (E : E_X6_item Γ Q) : jSA Γ Q 37 (o_iload 6) 2 := so_iload E.2.2.1 dX6_item_37
theorem oo_X6_item_39 {Γ : jΓ} {Q : jPost} (E : E_X6_item Γ Q) : jSA Γ Q 39 (o_ireti) 1 := so_ireti E.2.2.1 E.2.2.2 dX6_item_39
theorem oo_X6_item_40 {Γ : jΓ} {Q : jPost} (E : E_X6_item Γ Q) : jSA Γ Q 40 (o_aload 5) 2 := so_aload E.2.2.1 dX6_item_40
theorem oo_X6_item_42 {Γ : jΓ} {Q : jPost} (E : E_X6_item Γ Q) : jSA Γ Q 42 (o_iload 3) 1 := so_iload_n E.2.2.1 rfl dX6_item_42
theorem oo_X6_item_43 {Γ : jΓ} {Q : jPost} (E : E_X6_item Γ Q) : jSA Γ Q 43 (o_ic (1)) 1 := so_iconst E.2.2.1 rfl dX6_item_43
theorem oo_X6_item_44 {Γ : jΓ} {Q : jPost} (E : E_X6_item Γ Q) : jSA Γ Q 44 (o_callV 3 5 T_X5_hasItems) 3 := so_callV E.2.2.1 (ci := 5) (by rw [E.2.1]; rfl) gX6_item_X5_hasItems (by decide +kernel) rfl (by rw [E.2.1]; exact m_X5_hasItems _) (by decide) (by decide) dX6_item_44
theorem oo_X6_item_47 {Γ : jΓ} {Q : jPost} (E : E_X6_item Γ Q) : jSA Γ Q 47 (o_ifne 53) 3 := so_ifne E.2.2.1 (by decide) dX6_item_47
theorem oo_X6_item_50 {Γ : jΓ} {Q : jPost} (E : E_X6_item Γ Q) : jSA Γ Q 50 (o_ic (-13)) 2 := so_bipush E.2.2.1 rfl dX6_item_50
theorem oo_X6_item_52 {Γ : jΓ} {Q : jPost} (E : E_X6_item Γ Q) : jSA Γ Q 52 (o_ireti) 1 := so_ireti E.2.2.1 E.2.2.2 dX6_item_52
theorem oo_X6_item_53 {Γ : jΓ} {Q : jPost} (E : E_X6_item Γ Q) : jSA Γ Q 53 (o_aload 5) 2 := so_aload E.2.2.1 dX6_item_53
theorem oo_X6_item_55 {Γ : jΓ} {Q : jPost} (E : E_X6_item Γ Q) : jSA Γ Q 55 (o_getf 5 2) 3 := so_getf (ci := 5) E.2.2.1 wi_X6_item_X5 (by rw [E.2.1]; rfl) 2 (by decide) wl_X6_item_230 dX6_item_55
theorem oo_X6_item_58 {Γ : jΓ} {Q : jPost} (E : E_X6_item Γ Q) : jSA Γ Q 58 (o_iload 3) 1 := so_iload_n E.2.2.1 rfl dX6_item_58
theorem oo_X6_item_59 {Γ : jΓ} {Q : jPost} (E : E_X6_item Γ Q) : jSA Γ Q 59 (o_aload 5) 2 := so_aload E.2.2.1 dX6_item_59
theorem oo_X6_item_61 {Γ : jΓ} {Q : jPost} (E : E_X6_item Γ Q) : jSA Γ Q 61 (o_iload 4) 2 := so_iload E.2.2.1 dX6_item_61
theorem oo_X6_item_63 {Γ : jΓ} {Q : jPost} (E : E_X6_item Γ Q) : jSA Γ Q 63 (o_callV 2 5 T_X5_lowestBits) 3 := so_callV E.2.2.1 (ci := 5) (by rw [E.2.1]; rfl) gX6_item_X5_lowestBits (by decide +kernel) rfl (by rw [E.2.1]; exact m_X5_lowestBits _) (by decide) (by decide) dX6_item_63
theorem oo_X6_item_66 {Γ : jΓ} {Q : jPost} (E : E_X6_item Γ Q) : jSA Γ Q 66 (o_iast) 1 := so_iast E.2.2.1 dX6_item_66
theorem oo_X6_item_67 {Γ : jΓ} {Q : jPost} (E : E_X6_item Γ Q) : jSA Γ Q 67 (o_ic (1)) 1 := so_iconst E.2.2.1 rfl dX6_item_67
theorem oo_X6_item_68 {Γ : jΓ} {Q : jPost} (E : E_X6_item Γ Q) : jSA Γ Q 68 (o_ireti) 1 := so_ireti E.2.2.1 E.2.2.2 dX6_item_68
theorem ok_X6_item_0 {Γ : jΓ} {Q : jPost} (E : E_X6_item Γ Q) : jSS Γ Q 0 sg_X6_item_0 := ⟨oo_X6_item_0 E, oo_X6_item_1 E, oo_X6_item_4 E, oo_X6_item_7 E, oo_X6_item_8 E, oo_X6_item_11 E, oo_X6_item_14 E, oo_X6_item_15 E, trivial⟩
theorem ok_X6_item_14 {Γ : jΓ} {Q : jPost} (E : E_X6_item Γ Q) : jSS Γ Q 14 sg_X6_item_14 := ⟨oo_X6_item_14 E, oo_X6_item_15 E, trivial⟩
theorem ok_X6_item_16 {Γ : jΓ} {Q : jPost} (E : E_X6_item Γ Q) : jSS Γ Q 16 sg_X6_item_16 := ⟨oo_X6_item_16 E, oo_X6_item_17 E, oo_X6_item_20 E, oo_X6_item_21 E, oo_X6_item_22 E, oo_X6_item_24 E, oo_X6_item_26 E, oo_X6_item_27 E, oo_X6_item_30 E, oo_X6_item_32 E, oo_X6_item_34 E, oo_X6_item_37 E, oo_X6_item_39 E, trivial⟩
theorem ok_X6_item_40 {Γ : jΓ} {Q : jPost} (E : E_X6_item Γ Q) : jSS Γ Q 40 sg_X6_item_40 := ⟨oo_X6_item_40 E, oo_X6_item_42 E, oo_X6_item_43 E, oo_X6_item_44 E, oo_X6_item_47 E, oo_X6_item_50 E, oo_X6_item_52 E, trivial⟩
theorem ok_X6_item_53 {Γ : jΓ} {Q : jPost} (E : E_X6_item Γ Q) : jSS Γ Q 53 sg_X6_item_53 := ⟨oo_X6_item_53 E, oo_X6_item_55 E, oo_X6_item_58 E, oo_X6_item_59 E, oo_X6_item_61 E, oo_X6_item_63 E, oo_X6_item_66 E, oo_X6_item_67 E, oo_X6_item_68 E, trivial⟩
theorem okc_X6_item {Γ : jΓ} {Q : jPost} (E : E_X6_item Γ Q) (t : Nat) : jSS Γ Q t (cd_X6_item t) := by
  unfold cd_X6_item
  split
  · exact ok_X6_item_14 E
  · exact ok_X6_item_16 E
  · exact ok_X6_item_40 E
  · exact ok_X6_item_53 E
  · trivial
theorem m_X6_item_of (l : Launch) (hv : ∀ (G : jGt) (Q : jPost) (vs : List Value) (K : List jK) (h : jM), jHd cd_X6_item G Q sg_X6_item_0 0 → T_X6_item vs K h Q → (lg_sl vs).length ≤ 7 ∧ G 0 (jinit vs 7) [] K h 0 0) : jHolds vwCl l yX6_item wsX6_item 2 42 0 0 T_X6_item := by
  refine jMet (cc := cX6_item) (maxL := 7) (rt := (some .int)) (by decide +kernel) rfl (fun Γ Q vs K h hl hn hcl C hR hT => hv (jG Γ) Q vs K h ?_ hT)
  · exact fun n L st K h ce sl => jwp_ok (okc_X6_item ⟨hn, hcl, C, hR⟩) n sg_X6_item_0 0 (ok_X6_item_0 ⟨hn, hcl, C, hR⟩) L st K h ce sl
set_option maxHeartbeats 4000000 in
set_option maxRecDepth 100000 in
theorem v_X6_item {G : jGt} {Q : jPost} {K : List jK} {h : jM} {s : Int32} {l : Int32} {i : Int32} {v : Int32} (hT : jX K ∧ (¬ ((0 ≤ s ∧ s ≤ 3) ∧ (0 ≤ l ∧ l ≤ 2)) → Q (some (.int (-1))) K h) ∧ ((0 ≤ s ∧ s ≤ 3) ∧ (0 ≤ l ∧ l ≤ 2) → (0 ≤ (h (29 + 2 * s.toNatClampNeg) 1).toInt ∧ (h (29 + 2 * s.toNatClampNeg) 1).toInt ≤ 60) ∧ (¬ jfound (h (29 + 2 * s.toNatClampNeg) 0) l = 0 → Q (some (.int (jfound (h (29 + 2 * s.toNatClampNeg) 0) l))) K h) ∧ (jfound (h (29 + 2 * s.toNatClampNeg) 0) l = 0 → (¬ (0 ≤ i ∧ i ≤ h (29 + 2 * s.toNatClampNeg) 1 - 1) → Q (some (.int (-13))) K h) ∧ (0 ≤ i ∧ i ≤ h (29 + 2 * s.toNatClampNeg) 1 - 1 → Q (some (.int 1)) K (up2 h (30 + 2 * s.toNatClampNeg) i.toNatClampNeg (jlow (h (29 + 2 * s.toNatClampNeg) 0).toInt v)))))) (H0 : jHd cd_X6_item G Q sg_X6_item_0 0) : G 0 [some (.ref 0), some (.int s), some (.int l), some (.int i), some (.int v), none, none] [] K h 0 0 := by
  obtain ⟨hX, hT0, hT1⟩ := hT
  refine H0 80 _ _ _ _ _ _ ?_
  have e01 : ((0 : Int32) ≤ 1) = True := by simp
  by_cases c1 : 0 ≤ s ∧ s ≤ 3
  · obtain ⟨j, hj, rfl⟩ := sh_of c1
    have h31 : j < 2147483648 := by omega
    have hv : vp_in (nI j) 4 := vp_in_nI hj (by decide)
    have hS : isSh (29 + 2 * j) := ⟨j, hj, rfl⟩
    have h9 : 29 + 2 * j + 1 = 30 + 2 * j := by omega
    by_cases c2 : 0 ≤ l ∧ l ≤ 2
    · obtain ⟨hle, hT1, hT2⟩ := hT1 ⟨c1, c2⟩
      rw [nI_clamp h31] at hT1 hT2 hle
      by_cases c3 : jfound (h (29 + 2 * j) 0) l = 0
      · obtain ⟨hT2, hT3⟩ := hT2 c3
        by_cases c4 : 0 ≤ i ∧ i ≤ h (29 + 2 * j) 1 - 1
        · have hT3 := hT3 c4
          have hi : vp_in i 60 := in_of_le c4 hle
          simp only [sg_X6_item_0, sg_X6_item_14, sg_X6_item_16, sg_X6_item_40, sg_X6_item_53, cd_X6_item, jwp, o_ic, o_lc, o_iload, o_lload, o_aload, o_istore, o_lstore, o_astore, o_iinc, o_pop, o_dup, o_dup2, o_iadd, o_isub, o_imul, o_iand, o_ior, o_ishl, o_ladd, o_lmul, o_land, o_lor, o_idiv, o_irem, o_ineg, o_i2l, o_l2i, o_i2b, o_i2s, o_lushr, o_lshr, o_lshl, o_lcmp, o_ifeq, o_ifne, o_iflt, o_ifge, o_ifgt, o_ifle, o_iceq, o_icne, o_iclt, o_icge, o_icgt, o_icle, o_goto, o_tsw, jsw, o_lsw, jlk, o_getf, o_putf, o_putz, o_iald, o_zald, o_iast, o_zast, o_aald, o_alen, o_gets, o_zld, o_zlen, o_cpy, o_call, o_callV, o_ireti, o_iretz, o_lret, o_vret, jg, js, jkp, jkill, jsp, jcs, jfw, jov, Value.category, Option.toList_some, Option.toList_none, List.nil_append, List.cons_append, List.append_nil, Nat.reduceAdd, true_and, and_true, jb0, jb01, jb1, jem, true_or, or_true, Classical.not_not, forall_const, List.length_cons, List.length_nil, Nat.reduceLeDiff, Nat.zero_le, Nat.reduceLT, and_self, not_true_eq_false, not_false_eq_true, false_imp_iff, true_imp_iff, implies_true, and_false, false_and, or_false, false_or, hX, kx_0_0 hX, kx_0_1 hX, kx_0_2 hX, kx_0_3 hX, kx_0_4 hX, kx_0_5 hX, kx_0_6 hX, kx_0_7 hX, kx_0_8 hX, kxo_0 hX, kx_1_0 hX, kx_1_1 hX, kx_1_2 hX, kx_1_3 hX, kxo_1 hX, kx_4_0 hX, kx_4_1 hX, kx_4_2 hX, kxo_4 hX, kx_19_0 hX, kx_19_1 hX, kx_19_2 hX, kx_19_3 hX, kx_19_4 hX, kxo_19 hX, kx_24_0 hX, kx_24_1 hX, kx_24_2 hX, kx_24_3 hX, kx_24_4 hX, kx_24_5 hX, kx_24_6 hX, kxo_24 hX, kxa_2 hX, kxa_3 hX, kxa_6 hX, kxa_7 hX, kxa_8 hX, kxa_9 hX, kxa_10 hX, kxa_18 hX, kxa_20 hX, kxa_21 hX, kxa_22 hX, kxa_23 hX, kxa_26 hX, kxa_27 hX, kxr_5 hX, kxr_11 hX, kxr_28 hX, T_X6_isSheet, T_X6_isLane, T_X5_foundAs, T_X5_hasItems, T_X5_lowestBits, c1, c2, c3, c4, e01, hi, nI_clamp h31, kx_shs hj, hv, hS, kxs_0 hX hj, kxs_1 hX hj, kxs_2 hX hj, kxs_o hX hj, kxs_a hX hj]
          exact hT3
        · have hT2 := hT2 c4
          simp only [sg_X6_item_0, sg_X6_item_14, sg_X6_item_16, sg_X6_item_40, sg_X6_item_53, cd_X6_item, jwp, o_ic, o_lc, o_iload, o_lload, o_aload, o_istore, o_lstore, o_astore, o_iinc, o_pop, o_dup, o_dup2, o_iadd, o_isub, o_imul, o_iand, o_ior, o_ishl, o_ladd, o_lmul, o_land, o_lor, o_idiv, o_irem, o_ineg, o_i2l, o_l2i, o_i2b, o_i2s, o_lushr, o_lshr, o_lshl, o_lcmp, o_ifeq, o_ifne, o_iflt, o_ifge, o_ifgt, o_ifle, o_iceq, o_icne, o_iclt, o_icge, o_icgt, o_icle, o_goto, o_tsw, jsw, o_lsw, jlk, o_getf, o_putf, o_putz, o_iald, o_zald, o_iast, o_zast, o_aald, o_alen, o_gets, o_zld, o_zlen, o_cpy, o_call, o_callV, o_ireti, o_iretz, o_lret, o_vret, jg, js, jkp, jkill, jsp, jcs, jfw, jov, Value.category, Option.toList_some, Option.toList_none, List.nil_append, List.cons_append, List.append_nil, Nat.reduceAdd, true_and, and_true, jb0, jb01, jb1, jem, true_or, or_true, Classical.not_not, forall_const, List.length_cons, List.length_nil, Nat.reduceLeDiff, Nat.zero_le, Nat.reduceLT, and_self, not_true_eq_false, not_false_eq_true, false_imp_iff, true_imp_iff, implies_true, and_false, false_and, or_false, false_or, hX, kx_0_0 hX, kx_0_1 hX, kx_0_2 hX, kx_0_3 hX, kx_0_4 hX, kx_0_5 hX, kx_0_6 hX, kx_0_7 hX, kx_0_8 hX, kxo_0 hX, kx_1_0 hX, kx_1_1 hX, kx_1_2 hX, kx_1_3 hX, kxo_1 hX, kx_4_0 hX, kx_4_1 hX, kx_4_2 hX, kxo_4 hX, kx_19_0 hX, kx_19_1 hX, kx_19_2 hX, kx_19_3 hX, kx_19_4 hX, kxo_19 hX, kx_24_0 hX, kx_24_1 hX, kx_24_2 hX, kx_24_3 hX, kx_24_4 hX, kx_24_5 hX, kx_24_6 hX, kxo_24 hX, kxa_2 hX, kxa_3 hX, kxa_6 hX, kxa_7 hX, kxa_8 hX, kxa_9 hX, kxa_10 hX, kxa_18 hX, kxa_20 hX, kxa_21 hX, kxa_22 hX, kxa_23 hX, kxa_26 hX, kxa_27 hX, kxr_5 hX, kxr_11 hX, kxr_28 hX, T_X6_isSheet, T_X6_isLane, T_X5_foundAs, T_X5_hasItems, T_X5_lowestBits, c1, c2, c3, c4, e01, nI_clamp h31, kx_shs hj, hv, hS, kxs_0 hX hj, kxs_1 hX hj, kxs_2 hX hj, kxs_o hX hj, kxs_a hX hj]
          exact hT2
      · have hT1 := hT1 c3
        simp only [sg_X6_item_0, sg_X6_item_14, sg_X6_item_16, sg_X6_item_40, sg_X6_item_53, cd_X6_item, jwp, o_ic, o_lc, o_iload, o_lload, o_aload, o_istore, o_lstore, o_astore, o_iinc, o_pop, o_dup, o_dup2, o_iadd, o_isub, o_imul, o_iand, o_ior, o_ishl, o_ladd, o_lmul, o_land, o_lor, o_idiv, o_irem, o_ineg, o_i2l, o_l2i, o_i2b, o_i2s, o_lushr, o_lshr, o_lshl, o_lcmp, o_ifeq, o_ifne, o_iflt, o_ifge, o_ifgt, o_ifle, o_iceq, o_icne, o_iclt, o_icge, o_icgt, o_icle, o_goto, o_tsw, jsw, o_lsw, jlk, o_getf, o_putf, o_putz, o_iald, o_zald, o_iast, o_zast, o_aald, o_alen, o_gets, o_zld, o_zlen, o_cpy, o_call, o_callV, o_ireti, o_iretz, o_lret, o_vret, jg, js, jkp, jkill, jsp, jcs, jfw, jov, Value.category, Option.toList_some, Option.toList_none, List.nil_append, List.cons_append, List.append_nil, Nat.reduceAdd, true_and, and_true, jb0, jb01, jb1, jem, true_or, or_true, Classical.not_not, forall_const, List.length_cons, List.length_nil, Nat.reduceLeDiff, Nat.zero_le, Nat.reduceLT, and_self, not_true_eq_false, not_false_eq_true, false_imp_iff, true_imp_iff, implies_true, and_false, false_and, or_false, false_or, hX, kx_0_0 hX, kx_0_1 hX, kx_0_2 hX, kx_0_3 hX, kx_0_4 hX, kx_0_5 hX, kx_0_6 hX, kx_0_7 hX, kx_0_8 hX, kxo_0 hX, kx_1_0 hX, kx_1_1 hX, kx_1_2 hX, kx_1_3 hX, kxo_1 hX, kx_4_0 hX, kx_4_1 hX, kx_4_2 hX, kxo_4 hX, kx_19_0 hX, kx_19_1 hX, kx_19_2 hX, kx_19_3 hX, kx_19_4 hX, kxo_19 hX, kx_24_0 hX, kx_24_1 hX, kx_24_2 hX, kx_24_3 hX, kx_24_4 hX, kx_24_5 hX, kx_24_6 hX, kxo_24 hX, kxa_2 hX, kxa_3 hX, kxa_6 hX, kxa_7 hX, kxa_8 hX, kxa_9 hX, kxa_10 hX, kxa_18 hX, kxa_20 hX, kxa_21 hX, kxa_22 hX, kxa_23 hX, kxa_26 hX, kxa_27 hX, kxr_5 hX, kxr_11 hX, kxr_28 hX, T_X6_isSheet, T_X6_isLane, T_X5_foundAs, T_X5_hasItems, T_X5_lowestBits, c1, c2, c3, nI_clamp h31, kx_shs hj, hv, hS, kxs_0 hX hj, kxs_1 hX hj, kxs_2 hX hj, kxs_o hX hj, kxs_a hX hj]
        exact hT1
    · have hT0 := hT0 (fun z => c2 z.2)
      simp only [sg_X6_item_0, sg_X6_item_14, sg_X6_item_16, sg_X6_item_40, sg_X6_item_53, cd_X6_item, jwp, o_ic, o_lc, o_iload, o_lload, o_aload, o_istore, o_lstore, o_astore, o_iinc, o_pop, o_dup, o_dup2, o_iadd, o_isub, o_imul, o_iand, o_ior, o_ishl, o_ladd, o_lmul, o_land, o_lor, o_idiv, o_irem, o_ineg, o_i2l, o_l2i, o_i2b, o_i2s, o_lushr, o_lshr, o_lshl, o_lcmp, o_ifeq, o_ifne, o_iflt, o_ifge, o_ifgt, o_ifle, o_iceq, o_icne, o_iclt, o_icge, o_icgt, o_icle, o_goto, o_tsw, jsw, o_lsw, jlk, o_getf, o_putf, o_putz, o_iald, o_zald, o_iast, o_zast, o_aald, o_alen, o_gets, o_zld, o_zlen, o_cpy, o_call, o_callV, o_ireti, o_iretz, o_lret, o_vret, jg, js, jkp, jkill, jsp, jcs, jfw, jov, Value.category, Option.toList_some, Option.toList_none, List.nil_append, List.cons_append, List.append_nil, Nat.reduceAdd, true_and, and_true, jb0, jb01, jb1, jem, true_or, or_true, Classical.not_not, forall_const, List.length_cons, List.length_nil, Nat.reduceLeDiff, Nat.zero_le, Nat.reduceLT, and_self, not_true_eq_false, not_false_eq_true, false_imp_iff, true_imp_iff, implies_true, and_false, false_and, or_false, false_or, hX, kx_0_0 hX, kx_0_1 hX, kx_0_2 hX, kx_0_3 hX, kx_0_4 hX, kx_0_5 hX, kx_0_6 hX, kx_0_7 hX, kx_0_8 hX, kxo_0 hX, kx_1_0 hX, kx_1_1 hX, kx_1_2 hX, kx_1_3 hX, kxo_1 hX, kx_4_0 hX, kx_4_1 hX, kx_4_2 hX, kxo_4 hX, kx_19_0 hX, kx_19_1 hX, kx_19_2 hX, kx_19_3 hX, kx_19_4 hX, kxo_19 hX, kx_24_0 hX, kx_24_1 hX, kx_24_2 hX, kx_24_3 hX, kx_24_4 hX, kx_24_5 hX, kx_24_6 hX, kxo_24 hX, kxa_2 hX, kxa_3 hX, kxa_6 hX, kxa_7 hX, kxa_8 hX, kxa_9 hX, kxa_10 hX, kxa_18 hX, kxa_20 hX, kxa_21 hX, kxa_22 hX, kxa_23 hX, kxa_26 hX, kxa_27 hX, kxr_5 hX, kxr_11 hX, kxr_28 hX, T_X6_isSheet, T_X6_isLane, c1, c2]
      exact hT0
  · have hT0 := hT0 (fun z => c1 z.1)
    simp only [sg_X6_item_0, sg_X6_item_14, sg_X6_item_16, sg_X6_item_40, sg_X6_item_53, cd_X6_item, jwp, o_ic, o_lc, o_iload, o_lload, o_aload, o_istore, o_lstore, o_astore, o_iinc, o_pop, o_dup, o_dup2, o_iadd, o_isub, o_imul, o_iand, o_ior, o_ishl, o_ladd, o_lmul, o_land, o_lor, o_idiv, o_irem, o_ineg, o_i2l, o_l2i, o_i2b, o_i2s, o_lushr, o_lshr, o_lshl, o_lcmp, o_ifeq, o_ifne, o_iflt, o_ifge, o_ifgt, o_ifle, o_iceq, o_icne, o_iclt, o_icge, o_icgt, o_icle, o_goto, o_tsw, jsw, o_lsw, jlk, o_getf, o_putf, o_putz, o_iald, o_zald, o_iast, o_zast, o_aald, o_alen, o_gets, o_zld, o_zlen, o_cpy, o_call, o_callV, o_ireti, o_iretz, o_lret, o_vret, jg, js, jkp, jkill, jsp, jcs, jfw, jov, Value.category, Option.toList_some, Option.toList_none, List.nil_append, List.cons_append, List.append_nil, Nat.reduceAdd, true_and, and_true, jb0, jb01, jb1, jem, true_or, or_true, Classical.not_not, forall_const, List.length_cons, List.length_nil, Nat.reduceLeDiff, Nat.zero_le, Nat.reduceLT, and_self, not_true_eq_false, not_false_eq_true, false_imp_iff, true_imp_iff, implies_true, and_false, false_and, or_false, false_or, hX, kx_0_0 hX, kx_0_1 hX, kx_0_2 hX, kx_0_3 hX, kx_0_4 hX, kx_0_5 hX, kx_0_6 hX, kx_0_7 hX, kx_0_8 hX, kxo_0 hX, kx_1_0 hX, kx_1_1 hX, kx_1_2 hX, kx_1_3 hX, kxo_1 hX, kx_4_0 hX, kx_4_1 hX, kx_4_2 hX, kxo_4 hX, kx_19_0 hX, kx_19_1 hX, kx_19_2 hX, kx_19_3 hX, kx_19_4 hX, kxo_19 hX, kx_24_0 hX, kx_24_1 hX, kx_24_2 hX, kx_24_3 hX, kx_24_4 hX, kx_24_5 hX, kx_24_6 hX, kxo_24 hX, kxa_2 hX, kxa_3 hX, kxa_6 hX, kxa_7 hX, kxa_8 hX, kxa_9 hX, kxa_10 hX, kxa_18 hX, kxa_20 hX, kxa_21 hX, kxa_22 hX, kxa_23 hX, kxa_26 hX, kxa_27 hX, kxr_5 hX, kxr_11 hX, kxr_28 hX, T_X6_isSheet, T_X6_isLane, c1]
    exact hT0
theorem m_X6_item (l : Launch) : jHolds vwCl l yX6_item wsX6_item 2 42 0 0 T_X6_item := by
  refine m_X6_item_of l (fun G Q vs K h H0 hT => ?_)
  unfold T_X6_item at hT
  split at hT
  · obtain ⟨rfl, hT⟩ := hT
    exact ⟨Nat.le_of_ble_eq_true rfl, v_X6_item hT H0⟩
  · exact hT.elim

/-! X6_lay -/
theorem items_in {f n L : Int32} (h : 0 ≤ f ∧ f ≤ L - n) (hn : 0 ≤ n) (hL : 0 ≤ L.toInt ∧ L.toInt ≤ 60) : 0 ≤ f.toInt ∧ 0 ≤ n.toInt ∧ f.toInt + n.toInt ≤ 60 := by
  have e1 : (0 : Int) ≤ f.toInt := le_of_lit h.1
  have e2 : f.toInt ≤ (L - n).toInt := le_of_lit h.2
  have e3 : (0 : Int) ≤ n.toInt := le_of_lit hn
  have h9 := n.toInt_lt
  have e4 : (L - n).toInt = L.toInt - n.toInt := ti_sub (by omega) (by omega)
  omega
theorem row_in {x y n : Int32} (h1 : onF x y) (h2 : onF (x + n - 1) y) (h3 : 0 ≤ n.toInt) (h4 : n.toInt ≤ 60) : (jpl x y).toNatClampNeg + n.toNatClampNeg ≤ 57600 := by
  have a1 := jpl_int h1
  obtain ⟨⟨b1, b2⟩, b3, b4⟩ := onF_int h1
  obtain ⟨⟨d1, d2⟩, -⟩ := onF_int h2
  have e0 : (x + n).toInt = x.toInt + n.toInt := ti_add (by omega) (by omega)
  have e1 : (x + n - 1).toInt = x.toInt + n.toInt - 1 := by
    rw [ti_sub (by rw [e0]; show _ ≤ _ - (1 : Int); omega) (by rw [e0]; show _ - (1 : Int) < _; omega), e0]; rfl
  rw [e1] at d1 d2
  have a2 := clamp_int (x := jpl x y) (by omega)
  have a3 := clamp_int h3
  omega
def T_X6_lay : jT := fun vs K h Q => match vs with
  | [.ref r0, .int s, .int l, .int f, .int n, .int x, .int y] => r0 = 0 ∧ (jX K ∧ (¬ ((0 ≤ s ∧ s ≤ 3) ∧ (0 ≤ l ∧ l ≤ 2)) → Q (some (.int (-1))) K h) ∧ ((0 ≤ s ∧ s ≤ 3) ∧ (0 ≤ l ∧ l ≤ 2) → (0 ≤ (h (29 + 2 * s.toNatClampNeg) 1).toInt ∧ (h (29 + 2 * s.toNatClampNeg) 1).toInt ≤ 60) ∧ (¬ jfound (h (29 + 2 * s.toNatClampNeg) 0) l = 0 → Q (some (.int (jfound (h (29 + 2 * s.toNatClampNeg) 0) l))) K h) ∧ (jfound (h (29 + 2 * s.toNatClampNeg) 0) l = 0 → (n < 0 → Q (some (.int (-14))) K h) ∧ (¬ n < 0 → (¬ (0 ≤ f ∧ f ≤ h (29 + 2 * s.toNatClampNeg) 1 - n) → Q (some (.int (-13))) K h) ∧ (0 ≤ f ∧ f ≤ h (29 + 2 * s.toNatClampNeg) 1 - n → (n = 0 → Q (some (.int 0)) K h) ∧ (¬ n = 0 → (¬ (onF x y ∧ onF (x + n - 1) y ∧ ∀ k, k < n.toInt.toNat → 0 ≤ h (30 + 2 * s.toNatClampNeg) (f.toInt.toNat + k) ∧ h (30 + 2 * s.toNatClampNeg) (f.toInt.toNat + k) ≤ h 1 1 - 1) → Q (some (.int (-1))) K h) ∧ ((onF x y ∧ onF (x + n - 1) y ∧ ∀ k, k < n.toInt.toNat → 0 ≤ h (30 + 2 * s.toNatClampNeg) (f.toInt.toNat + k) ∧ h (30 + 2 * s.toNatClampNeg) (f.toInt.toNat + k) ≤ h 1 1 - 1) → Q (some (.int n)) K (up2 (upr h 2 (va_cpy (h (30 + 2 * s.toNatClampNeg)) (h 2) f.toNatClampNeg (jpl x y).toNatClampNeg n.toNatClampNeg)) 24 1 1))))))))
  | _ => False
def sg_X6_lay_0 : jS := [(o_iload 1, 1), (o_call 1 T_X6_isSheet, 3), (o_ifeq 14, 3), (o_iload 2, 1), (o_call 1 T_X6_isLane, 3), (o_ifne 16, 3), (o_ic (-1), 1), (o_ireti, 1)]
def sg_X6_lay_14 : jS := [(o_ic (-1), 1), (o_ireti, 1)]
def sg_X6_lay_16 : jS := [(o_aload 0, 1), (o_getf 6 6, 3), (o_iload 1, 1), (o_aald 3, 1), (o_astore 7, 2), (o_aload 7, 2), (o_iload 2, 1), (o_callV 2 5 T_X5_foundAs, 3), (o_istore 8, 2), (o_iload 8, 2), (o_ifeq 40, 3), (o_iload 8, 2), (o_ireti, 1)]
def sg_X6_lay_40 : jS := [(o_iload 4, 2), (o_ifge 48, 3), (o_ic (-14), 2), (o_ireti, 1)]
def sg_X6_lay_48 : jS := [(o_aload 7, 2), (o_iload 3, 1), (o_iload 4, 2), (o_callV 3 5 T_X5_hasItems, 3), (o_ifne 62, 3), (o_ic (-13), 2), (o_ireti, 1)]
def sg_X6_lay_62 : jS := [(o_iload 4, 2), (o_ifne 69, 3), (o_ic (0), 1), (o_ireti, 1)]
def sg_X6_lay_69 : jS := [(o_iload 5, 2), (o_iload 6, 2), (o_call 2 T_X6_placeOf, 3), (o_istore 9, 2), (o_iload 9, 2), (o_iflt 116, 3), (o_iload 5, 2), (o_iload 4, 2), (o_iadd, 1), (o_ic (1), 1), (o_isub, 1), (o_iload 6, 2), (o_call 2 T_X6_placeOf, 3), (o_iflt 116, 3), (o_aload 7, 2), (o_iload 3, 1), (o_iload 4, 2), (o_aload 0, 1), (o_getf 6 0, 3), (o_getf 1 1, 3), (o_callV 4 5 T_X5_areColours, 3), (o_ifne 118, 3), (o_ic (-1), 1), (o_ireti, 1)]
def sg_X6_lay_116 : jS := [(o_ic (-1), 1), (o_ireti, 1)]
def sg_X6_lay_118 : jS := [(o_aload 7, 2), (o_getf 5 2, 3), (o_iload 3, 1), (o_aload 0, 1), (o_getf 6 0, 3), (o_getf 1 2, 3), (o_iload 9, 2), (o_iload 4, 2), (o_cpy, 3), (o_aload 0, 1), (o_getf 6 5, 3), (o_callV 1 2 T_X2_spoil, 3), (o_iload 4, 2), (o_ireti, 1)]
def cd_X6_lay : Nat → jS := fun t => match t with
  | 14 => sg_X6_lay_14
  | 16 => sg_X6_lay_16
  | 40 => sg_X6_lay_40
  | 48 => sg_X6_lay_48
  | 62 => sg_X6_lay_62
  | 69 => sg_X6_lay_69
  | 116 => sg_X6_lay_116
  | 118 => sg_X6_lay_118
  | _ => []
theorem wl_X6_lay_12 : Cond.fieldLink RX6 12 (TX6 0).1 (TX6 0).2.1 (TX6 0).2.2.1 ∈ wsX6_lay := by decide +kernel
theorem wl_X6_lay_44 : Cond.fieldLink RX6 44 (TX6 5).1 (TX6 5).2.1 (TX6 5).2.2.1 ∈ wsX6_lay := by decide +kernel
theorem wl_X6_lay_50 : Cond.fieldLink RX6 50 (TX6 6).1 (TX6 6).2.1 (TX6 6).2.2.1 ∈ wsX6_lay := by decide +kernel
theorem wl_X6_lay_90 : Cond.fieldLink RX6 90 (TX1 1).1 (TX1 1).2.1 (TX1 1).2.2.1 ∈ wsX6_lay := by decide +kernel
theorem wl_X6_lay_111 : Cond.fieldLink RX6 111 (TX1 2).1 (TX1 2).2.1 (TX1 2).2.2.1 ∈ wsX6_lay := by decide +kernel
theorem wl_X6_lay_230 : Cond.fieldLink RX6 230 (TX5 2).1 (TX5 2).2.1 (TX5 2).2.2.1 ∈ wsX6_lay := by decide +kernel
theorem wi_X6_lay_X1 : ∀ w ∈ u_ws RX1 TX1 4, w ∈ wsX6_lay := by decide +kernel
theorem wi_X6_lay_X5 : ∀ w ∈ u_ws RX5 TX5 3, w ∈ wsX6_lay := by decide +kernel
theorem wi_X6_lay_X6 : ∀ w ∈ u_ws RX6 TX6 9, w ∈ wsX6_lay := by decide +kernel
def E_X6_lay (Γ : jΓ) (Q : jPost) : Prop := Γ.2.2.2.2.2.2.2.2.2.2.1 = 10 ∧ Γ.2.2.2.2.2.2.2.2.2.2.2.1 = vwCl ∧ jC Γ cX6_lay RX6 "lay" (some .int) wsX6_lay 2 46 0 0 ∧ jR Γ Q 0 0
theorem oo_X6_lay_0 {Γ : jΓ} {Q : jPost} (E : E_X6_lay Γ Q) : jSA Γ Q 0 (o_iload 1) 1 := so_iload_n E.2.2.1 rfl dX6_lay_0
theorem oo_X6_lay_1 {Γ : jΓ} {Q : jPost} (E : E_X6_lay Γ Q) : jSA Γ Q 1 (o_call 1 T_X6_isSheet) 3 := so_callS E.2.2.1 gX6_lay_X6_isSheet (by decide +kernel) rfl (by rw [E.2.1]; exact m_X6_isSheet _) (by decide) (by decide) dX6_lay_1
theorem oo_X6_lay_4 {Γ : jΓ} {Q : jPost} (E : E_X6_lay Γ Q) : jSA Γ Q 4 (o_ifeq 14) 3 := so_ifeq E.2.2.1 (by decide) dX6_lay_4
theorem oo_X6_lay_7 {Γ : jΓ} {Q : jPost} (E : E_X6_lay Γ Q) : jSA Γ Q 7 (o_iload 2) 1 := so_iload_n E.2.2.1 rfl dX6_lay_7
theorem oo_X6_lay_8 {Γ : jΓ} {Q : jPost} (E : E_X6_lay Γ Q) : jSA Γ Q 8 (o_call 1 T_X6_isLane) 3 := so_callS E.2.2.1 gX6_lay_X6_isLane (by decide +kernel) rfl (by rw [E.2.1]; exact m_X6_isLane _) (by decide) (by decide) dX6_lay_8
theorem oo_X6_lay_11 {Γ : jΓ} {Q : jPost} (E : E_X6_lay Γ Q) : jSA Γ Q 11 (o_ifne 16) 3 := so_ifne E.2.2.1 (by decide) dX6_lay_11
theorem oo_X6_lay_14 {Γ : jΓ} {Q : jPost} (E : E_X6_lay Γ Q) : jSA Γ Q 14 (o_ic (-1)) 1 := so_iconst E.2.2.1 rfl dX6_lay_14
theorem oo_X6_lay_15 {Γ : jΓ} {Q : jPost} (E : E_X6_lay Γ Q) : jSA Γ Q 15 (o_ireti) 1 := so_ireti E.2.2.1 E.2.2.2 dX6_lay_15
theorem oo_X6_lay_16 {Γ : jΓ} {Q : jPost} (E : E_X6_lay Γ Q) : jSA Γ Q 16 (o_aload 0) 1 := so_aload_n E.2.2.1 rfl dX6_lay_16
theorem oo_X6_lay_17 {Γ : jΓ} {Q : jPost} (E : E_X6_lay Γ Q) : jSA Γ Q 17 (o_getf 6 6) 3 := so_getf (ci := 6) E.2.2.1 wi_X6_lay_X6 (by rw [E.2.1]; rfl) 6 (by decide) wl_X6_lay_50 dX6_lay_17
theorem oo_X6_lay_20 {Γ : jΓ} {Q : jPost} (E : E_X6_lay Γ Q) : jSA Γ Q 20 (o_iload 1) 1 := so_iload_n E.2.2.1 rfl dX6_lay_20
theorem oo_X6_lay_21 {Γ : jΓ} {Q : jPost} (E : E_X6_lay Γ Q) : jSA Γ Q 21 (o_aald 3) 1 := so_aald3 E.2.2.1 dX6_lay_21
theorem oo_X6_lay_22 {Γ : jΓ} {Q : jPost} (E : E_X6_lay Γ Q) : jSA Γ Q 22 (o_astore 7) 2 := so_astore E.2.2.1 (by rw [E.1]; decide) dX6_lay_22
theorem oo_X6_lay_24 {Γ : jΓ} {Q : jPost} (E : E_X6_lay Γ Q) : jSA Γ Q 24 (o_aload 7) 2 := so_aload E.2.2.1 dX6_lay_24
theorem oo_X6_lay_26 {Γ : jΓ} {Q : jPost} (E : E_X6_lay Γ Q) : jSA Γ Q 26 (o_iload 2) 1 := so_iload_n E.2.2.1 rfl dX6_lay_26
theorem oo_X6_lay_27 {Γ : jΓ} {Q : jPost} (E : E_X6_lay Γ Q) : jSA Γ Q 27 (o_callV 2 5 T_X5_foundAs) 3 := so_callV E.2.2.1 (ci := 5) (by rw [E.2.1]; rfl) gX6_lay_X5_foundAs (by decide +kernel) rfl (by rw [E.2.1]; exact m_X5_foundAs _) (by decide) (by decide) dX6_lay_27
theorem oo_X6_lay_30 {Γ : jΓ} {Q : jPost} (E : E_X6_lay Γ Q) : jSA Γ Q 30 (o_istore 8) 2 := so_istore E.2.2.1 (by rw [E.1]; decide) dX6_lay_30
theorem oo_X6_lay_32 {Γ : jΓ} {Q : jPost} (E : E_X6_lay Γ Q) : jSA Γ Q 32 (o_iload 8) 2 := so_iload E.2.2.1 dX6_lay_32
theorem oo_X6_lay_34 {Γ : jΓ} {Q : jPost} (E : E_X6_lay Γ Q) : jSA Γ Q 34 (o_ifeq 40) 3 := so_ifeq E.2.2.1 (by decide) dX6_lay_34
theorem oo_X6_lay_37 {Γ : jΓ} {Q : jPost} (E : E_X6_lay Γ Q) : jSA Γ Q 37 (o_iload 8) 2 := so_iload E.2.2.1 dX6_lay_37
theorem oo_X6_lay_39 {Γ : jΓ} {Q : jPost} (E : E_X6_lay Γ Q) : jSA Γ Q 39 (o_ireti) 1 := so_ireti E.2.2.1 E.2.2.2 dX6_lay_39
theorem oo_X6_lay_40 {Γ : jΓ} {Q : jPost} (E : E_X6_lay Γ Q) : jSA Γ Q 40 (o_iload 4) 2 := so_iload E.2.2.1 dX6_lay_40
theorem oo_X6_lay_42 {Γ : jΓ} {Q : jPost} (E : E_X6_lay Γ Q) : jSA Γ Q 42 (o_ifge 48) 3 := so_ifge E.2.2.1 (by decide) dX6_lay_42
theorem oo_X6_lay_45 {Γ : jΓ} {Q : jPost} (E : E_X6_lay Γ Q) : jSA Γ Q 45 (o_ic (-14)) 2 := so_bipush E.2.2.1 rfl dX6_lay_45
theorem oo_X6_lay_47 {Γ : jΓ} {Q : jPost} (E : E_X6_lay Γ Q) : jSA Γ Q 47 (o_ireti) 1 := so_ireti E.2.2.1 E.2.2.2 dX6_lay_47
theorem oo_X6_lay_48 {Γ : jΓ} {Q : jPost} (E : E_X6_lay Γ Q) : jSA Γ Q 48 (o_aload 7) 2 := so_aload E.2.2.1 dX6_lay_48
theorem oo_X6_lay_50 {Γ : jΓ} {Q : jPost} (E : E_X6_lay Γ Q) : jSA Γ Q 50 (o_iload 3) 1 := so_iload_n E.2.2.1 rfl dX6_lay_50
theorem oo_X6_lay_51 {Γ : jΓ} {Q : jPost} (E : E_X6_lay Γ Q) : jSA Γ Q 51 (o_iload 4) 2 := so_iload E.2.2.1 dX6_lay_51
theorem oo_X6_lay_53 {Γ : jΓ} {Q : jPost} (E : E_X6_lay Γ Q) : jSA Γ Q 53 (o_callV 3 5 T_X5_hasItems) 3 := so_callV E.2.2.1 (ci := 5) (by rw [E.2.1]; rfl) gX6_lay_X5_hasItems (by decide +kernel) rfl (by rw [E.2.1]; exact m_X5_hasItems _) (by decide) (by decide) dX6_lay_53
theorem oo_X6_lay_56 {Γ : jΓ} {Q : jPost} (E : E_X6_lay Γ Q) : jSA Γ Q 56 (o_ifne 62) 3 := so_ifne E.2.2.1 (by decide) dX6_lay_56
theorem oo_X6_lay_59 {Γ : jΓ} {Q : jPost} (E : E_X6_lay Γ Q) : jSA Γ Q 59 (o_ic (-13)) 2 := so_bipush E.2.2.1 rfl dX6_lay_59
theorem oo_X6_lay_61 {Γ : jΓ} {Q : jPost} (E : E_X6_lay Γ Q) : jSA Γ Q 61 (o_ireti) 1 := so_ireti E.2.2.1 E.2.2.2 dX6_lay_61
theorem oo_X6_lay_62 {Γ : jΓ} {Q : jPost} (E : E_X6_lay Γ Q) : jSA Γ Q 62 (o_iload 4) 2 := so_iload E.2.2.1 dX6_lay_62
theorem oo_X6_lay_64 {Γ : jΓ} {Q : jPost} (E : E_X6_lay Γ Q) : jSA Γ Q 64 (o_ifne 69) 3 := so_ifne E.2.2.1 (by decide) dX6_lay_64
theorem oo_X6_lay_67 {Γ : jΓ} {Q : jPost} (E : E_X6_lay Γ Q) : jSA Γ Q 67 (o_ic (0)) 1 := so_iconst E.2.2.1 rfl dX6_lay_67
theorem oo_X6_lay_68 {Γ : jΓ} {Q : jPost} (E : E_X6_lay Γ Q) : jSA Γ Q 68 (o_ireti) 1 := so_ireti E.2.2.1 E.2.2.2 dX6_lay_68
theorem oo_X6_lay_69 {Γ : jΓ} {Q : jPost} (E : E_X6_lay Γ Q) : jSA Γ Q 69 (o_iload 5) 2 := so_iload E.2.2.1 dX6_lay_69
theorem oo_X6_lay_71 {Γ : jΓ} {Q : jPost} (E : E_X6_lay Γ Q) : jSA Γ Q 71 (o_iload 6) 2 := so_iload E.2.2.1 dX6_lay_71
theorem oo_X6_lay_73 {Γ : jΓ} {Q : jPost} (E : E_X6_lay Γ Q) : jSA Γ Q 73 (o_call 2 T_X6_placeOf) 3 := so_callS E.2.2.1 gX6_lay_X6_placeOf (by decide +kernel) rfl (by rw [E.2.1]; exact m_X6_placeOf _) (by decide) (by decide) dX6_lay_73
theorem oo_X6_lay_76 {Γ : jΓ} {Q : jPost} (E : E_X6_lay Γ Q) : jSA Γ Q 76 (o_istore 9) 2 := so_istore E.2.2.1 (by rw [E.1]; decide) dX6_lay_76
theorem oo_X6_lay_78 {Γ : jΓ} {Q : jPost} (E : E_X6_lay Γ Q) : jSA Γ Q 78 (o_iload 9) 2 := so_iload E.2.2.1 dX6_lay_78
theorem oo_X6_lay_80 {Γ : jΓ} {Q : jPost} (E : E_X6_lay Γ Q) : jSA Γ Q 80 (o_iflt 116) 3 := so_iflt E.2.2.1 (by decide) dX6_lay_80
theorem oo_X6_lay_83 {Γ : jΓ} {Q : jPost} (E : E_X6_lay Γ Q) : jSA Γ Q 83 (o_iload 5) 2 := so_iload E.2.2.1 dX6_lay_83
theorem oo_X6_lay_85 {Γ : jΓ} {Q : jPost} (E : E_X6_lay Γ Q) : jSA Γ Q 85 (o_iload 4) 2 := so_iload E.2.2.1 dX6_lay_85
theorem oo_X6_lay_87 {Γ : jΓ} {Q : jPost} (E : E_X6_lay Γ Q) : jSA Γ Q 87 (o_iadd) 1 := so_iadd E.2.2.1 dX6_lay_87
theorem oo_X6_lay_88 {Γ : jΓ} {Q : jPost} (E : E_X6_lay Γ Q) : jSA Γ Q 88 (o_ic (1)) 1 := so_iconst E.2.2.1 rfl dX6_lay_88
theorem oo_X6_lay_89 {Γ : jΓ} {Q : jPost} (E : E_X6_lay Γ Q) : jSA Γ Q 89 (o_isub) 1 := so_isub E.2.2.1 dX6_lay_89
theorem oo_X6_lay_90 {Γ : jΓ} {Q : jPost} (E : E_X6_lay Γ Q) : jSA Γ Q 90 (o_iload 6) 2 := so_iload E.2.2.1 dX6_lay_90
theorem oo_X6_lay_92 {Γ : jΓ} {Q : jPost} (E : E_X6_lay Γ Q) : jSA Γ Q 92 (o_call 2 T_X6_placeOf) 3 := so_callS E.2.2.1 gX6_lay_X6_placeOf (by decide +kernel) rfl (by rw [E.2.1]; exact m_X6_placeOf _) (by decide) (by decide) dX6_lay_92
theorem oo_X6_lay_95 {Γ : jΓ} {Q : jPost} (E : E_X6_lay Γ Q) : jSA Γ Q 95 (o_iflt 116) 3 := so_iflt E.2.2.1 (by decide) dX6_lay_95
theorem oo_X6_lay_98 {Γ : jΓ} {Q : jPost} (E : E_X6_lay Γ Q) : jSA Γ Q 98 (o_aload 7) 2 := so_aload E.2.2.1 dX6_lay_98
theorem oo_X6_lay_100 {Γ : jΓ} {Q : jPost} (E : E_X6_lay Γ Q) : jSA Γ Q 100 (o_iload 3) 1 := so_iload_n E.2.2.1 rfl dX6_lay_100
theorem oo_X6_lay_101 {Γ : jΓ} {Q : jPost} (E : E_X6_lay Γ Q) : jSA Γ Q 101 (o_iload 4) 2 := so_iload E.2.2.1 dX6_lay_101
theorem oo_X6_lay_103 {Γ : jΓ} {Q : jPost} (E : E_X6_lay Γ Q) : jSA Γ Q 103 (o_aload 0) 1 := so_aload_n E.2.2.1 rfl dX6_lay_103
theorem oo_X6_lay_104 {Γ : jΓ} {Q : jPost} (E : E_X6_lay Γ Q) : jSA Γ Q 104 (o_getf 6 0) 3 := so_getf (ci := 6) E.2.2.1 wi_X6_lay_X6 (by rw [E.2.1]; rfl) 0 (by decide) wl_X6_lay_12 dX6_lay_104
theorem oo_X6_lay_107 {Γ : jΓ} {Q : jPost} (E : E_X6_lay Γ Q) : jSA Γ Q 107 (o_getf 1 1) 3 := so_getf (ci := 1) E.2.2.1 wi_X6_lay_X1 (by rw [E.2.1]; rfl) 1 (by decide) wl_X6_lay_90 dX6_lay_107
theorem oo_X6_lay_110 {Γ : jΓ} {Q : jPost} (E : E_X6_lay Γ Q) : jSA Γ Q 110 (o_callV 4 5 T_X5_areColours) 3 := so_callV E.2.2.1 (ci := 5) (by rw [E.2.1]; rfl) gX6_lay_X5_areColours (by decide +kernel) rfl (by rw [E.2.1]; exact m_X5_areColours _) (by decide) (by decide) dX6_lay_110
theorem oo_X6_lay_113 {Γ : jΓ} {Q : jPost} (E : E_X6_lay Γ Q) : jSA Γ Q 113 (o_ifne 118) 3 := so_ifne E.2.2.1 (by decide) dX6_lay_113
theorem oo_X6_lay_116 {Γ : jΓ} {Q : jPost} (E : E_X6_lay Γ Q) : jSA Γ Q 116 (o_ic (-1)) 1 := so_iconst E.2.2.1 rfl dX6_lay_116
theorem oo_X6_lay_117 {Γ : jΓ} {Q : jPost} (E : E_X6_lay Γ Q) : jSA Γ Q 117 (o_ireti) 1 := so_ireti E.2.2.1 E.2.2.2 dX6_lay_117
theorem oo_X6_lay_118 {Γ : jΓ} {Q : jPost} (E : E_X6_lay Γ Q) : jSA Γ Q 118 (o_aload 7) 2 := so_aload E.2.2.1 dX6_lay_118
theorem oo_X6_lay_120 {Γ : jΓ} {Q : jPost} (E : E_X6_lay Γ Q) : jSA Γ Q 120 (o_getf 5 2) 3 := so_getf (ci := 5) E.2.2.1 wi_X6_lay_X5 (by rw [E.2.1]; rfl) 2 (by decide) wl_X6_lay_230 dX6_lay_120
theorem oo_X6_lay_123 {Γ : jΓ} {Q : jPost} (E : E_X6_lay Γ Q) : jSA Γ Q 123 (o_iload 3) 1 := so_iload_n E.2.2.1 rfl dX6_lay_123
theorem oo_X6_lay_124 {Γ : jΓ} {Q : jPost} (E : E_X6_lay Γ Q) : jSA Γ Q 124 (o_aload 0) 1 := so_aload_n E.2.2.1 rfl dX6_lay_124
theorem oo_X6_lay_125 {Γ : jΓ} {Q : jPost} (E : E_X6_lay Γ Q) : jSA Γ Q 125 (o_getf 6 0) 3 := so_getf (ci := 6) E.2.2.1 wi_X6_lay_X6 (by rw [E.2.1]; rfl) 0 (by decide) wl_X6_lay_12 dX6_lay_125
theorem oo_X6_lay_128 {Γ : jΓ} {Q : jPost} (E : E_X6_lay Γ Q) : jSA Γ Q 128 (o_getf 1 2) 3 := so_getf (ci := 1) E.2.2.1 wi_X6_lay_X1 (by rw [E.2.1]; rfl) 2 (by decide) wl_X6_lay_111 dX6_lay_128
theorem oo_X6_lay_131 {Γ : jΓ} {Q : jPost} (E : E_X6_lay Γ Q) : jSA Γ Q 131 (o_iload 9) 2 := so_iload E.2.2.1 dX6_lay_131
theorem oo_X6_lay_133 {Γ : jΓ} {Q : jPost} (E : E_X6_lay Γ Q) : jSA Γ Q 133 (o_iload 4) 2 := so_iload E.2.2.1 dX6_lay_133
theorem oo_X6_lay_135 {Γ : jΓ} {Q : jPost} (E : E_X6_lay Γ Q) : jSA Γ Q 135 (o_cpy) 3 := so_cpy E.2.2.1 (by decide +kernel) (by decide +kernel) (by decide +kernel) (by decide +kernel) (by decide) (by decide +kernel) dX6_lay_135
theorem oo_X6_lay_138 {Γ : jΓ} {Q : jPost} (E : E_X6_lay Γ Q) : jSA Γ Q 138 (o_aload 0) 1 := so_aload_n E.2.2.1 rfl dX6_lay_138
theorem oo_X6_lay_139 {Γ : jΓ} {Q : jPost} (E : E_X6_lay Γ Q) : jSA Γ Q 139 (o_getf 6 5) 3 := so_getf (ci := 6) E.2.2.1 wi_X6_lay_X6 (by rw [E.2.1]; rfl) 5 (by decide) wl_X6_lay_44 dX6_lay_139
theorem oo_X6_lay_142 {Γ : jΓ} {Q : jPost} (E : E_X6_lay Γ Q) : jSA Γ Q 142 (o_callV 1 2 T_X2_spoil) 3 := so_callV E.2.2.1 (ci := 2) (by rw [E.2.1]; rfl) gX6_lay_X2_spoil (by decide +kernel) rfl (by rw [E.2.1]; exact m_X2_spoil _) (by decide) (by decide) dX6_lay_142
theorem oo_X6_lay_145 {Γ : jΓ} {Q : jPost} (E : E_X6_lay Γ Q) : jSA Γ Q 145 (o_iload 4) 2 := so_iload E.2.2.1 dX6_lay_145
theorem oo_X6_lay_147 {Γ : jΓ} {Q : jPost} (E : E_X6_lay Γ Q) : jSA Γ Q 147 (o_ireti) 1 := so_ireti E.2.2.1 E.2.2.2 dX6_lay_147
theorem ok_X6_lay_0 {Γ : jΓ} {Q : jPost} (E : E_X6_lay Γ Q) : jSS Γ Q 0 sg_X6_lay_0 := ⟨oo_X6_lay_0 E, oo_X6_lay_1 E, oo_X6_lay_4 E, oo_X6_lay_7 E, oo_X6_lay_8 E, oo_X6_lay_11 E, oo_X6_lay_14 E, oo_X6_lay_15 E, trivial⟩
theorem ok_X6_lay_14 {Γ : jΓ} {Q : jPost} (E : E_X6_lay Γ Q) : jSS Γ Q 14 sg_X6_lay_14 := ⟨oo_X6_lay_14 E, oo_X6_lay_15 E, trivial⟩
theorem ok_X6_lay_16 {Γ : jΓ} {Q : jPost} (E : E_X6_lay Γ Q) : jSS Γ Q 16 sg_X6_lay_16 := ⟨oo_X6_lay_16 E, oo_X6_lay_17 E, oo_X6_lay_20 E, oo_X6_lay_21 E, oo_X6_lay_22 E, oo_X6_lay_24 E, oo_X6_lay_26 E, oo_X6_lay_27 E, oo_X6_lay_30 E, oo_X6_lay_32 E, oo_X6_lay_34 E, oo_X6_lay_37 E, oo_X6_lay_39 E, trivial⟩
theorem ok_X6_lay_40 {Γ : jΓ} {Q : jPost} (E : E_X6_lay Γ Q) : jSS Γ Q 40 sg_X6_lay_40 := ⟨oo_X6_lay_40 E, oo_X6_lay_42 E, oo_X6_lay_45 E, oo_X6_lay_47 E, trivial⟩
theorem ok_X6_lay_48 {Γ : jΓ} {Q : jPost} (E : E_X6_lay Γ Q) : jSS Γ Q 48 sg_X6_lay_48 := ⟨oo_X6_lay_48 E, oo_X6_lay_50 E, oo_X6_lay_51 E, oo_X6_lay_53 E, oo_X6_lay_56 E, oo_X6_lay_59 E, oo_X6_lay_61 E, trivial⟩
theorem ok_X6_lay_62 {Γ : jΓ} {Q : jPost} (E : E_X6_lay Γ Q) : jSS Γ Q 62 sg_X6_lay_62 := ⟨oo_X6_lay_62 E, oo_X6_lay_64 E, oo_X6_lay_67 E, oo_X6_lay_68 E, trivial⟩
theorem ok_X6_lay_69 {Γ : jΓ} {Q : jPost} (E : E_X6_lay Γ Q) : jSS Γ Q 69 sg_X6_lay_69 := ⟨oo_X6_lay_69 E, oo_X6_lay_71 E, oo_X6_lay_73 E, oo_X6_lay_76 E, oo_X6_lay_78 E, oo_X6_lay_80 E, oo_X6_lay_83 E, oo_X6_lay_85 E, oo_X6_lay_87 E, oo_X6_lay_88 E, oo_X6_lay_89 E, oo_X6_lay_90 E, oo_X6_lay_92 E, oo_X6_lay_95 E, oo_X6_lay_98 E, oo_X6_lay_100 E, oo_X6_lay_101 E, oo_X6_lay_103 E, oo_X6_lay_104 E, oo_X6_lay_107 E, oo_X6_lay_110 E, oo_X6_lay_113 E, oo_X6_lay_116 E, oo_X6_lay_117 E, trivial⟩
theorem ok_X6_lay_116 {Γ : jΓ} {Q : jPost} (E : E_X6_lay Γ Q) : jSS Γ Q 116 sg_X6_lay_116 := ⟨oo_X6_lay_116 E, oo_X6_lay_117 E, trivial⟩
theorem ok_X6_lay_118 {Γ : jΓ} {Q : jPost} (E : E_X6_lay Γ Q) : jSS Γ Q 118 sg_X6_lay_118 := ⟨oo_X6_lay_118 E, oo_X6_lay_120 E, oo_X6_lay_123 E, oo_X6_lay_124 E, oo_X6_lay_125 E, oo_X6_lay_128 E, oo_X6_lay_131 E, oo_X6_lay_133 E, oo_X6_lay_135 E, oo_X6_lay_138 E, oo_X6_lay_139 E, oo_X6_lay_142 E, oo_X6_lay_145 E, oo_X6_lay_147 E, trivial⟩
theorem okc_X6_lay {Γ : jΓ} {Q : jPost} (E : E_X6_lay Γ Q) (t : Nat) : jSS Γ Q t (cd_X6_lay t) := by
  unfold cd_X6_lay
  split
  · exact ok_X6_lay_14 E
  · exact ok_X6_lay_16 E
  · exact ok_X6_lay_40 E
  · exact ok_X6_lay_48 E
  · exact ok_X6_lay_62 E
  · exact ok_X6_lay_69 E
  · exact ok_X6_lay_116 E
  · exact ok_X6_lay_118 E
  · trivial
theorem m_X6_lay_of (l : Launch) (hv : ∀ (G : jGt) (Q : jPost) (vs : List Value) (K : List jK) (h : jM), jHd cd_X6_lay G Q sg_X6_lay_0 0 → T_X6_lay vs K h Q → (lg_sl vs).length ≤ 10 ∧ G 0 (jinit vs 10) [] K h 0 0) : jHolds vwCl l yX6_lay wsX6_lay 2 46 0 0 T_X6_lay := by
  refine jMet (cc := cX6_lay) (maxL := 10) (rt := (some .int)) (by decide +kernel) rfl (fun Γ Q vs K h hl hn hcl C hR hT => hv (jG Γ) Q vs K h ?_ hT)
  · exact fun n L st K h ce sl => jwp_ok (okc_X6_lay ⟨hn, hcl, C, hR⟩) n sg_X6_lay_0 0 (ok_X6_lay_0 ⟨hn, hcl, C, hR⟩) L st K h ce sl
set_option maxHeartbeats 4000000 in
set_option maxRecDepth 100000 in
theorem v_X6_lay {G : jGt} {Q : jPost} {K : List jK} {h : jM} {s : Int32} {l : Int32} {f : Int32} {n : Int32} {x : Int32} {y : Int32} (hT : jX K ∧ (¬ ((0 ≤ s ∧ s ≤ 3) ∧ (0 ≤ l ∧ l ≤ 2)) → Q (some (.int (-1))) K h) ∧ ((0 ≤ s ∧ s ≤ 3) ∧ (0 ≤ l ∧ l ≤ 2) → (0 ≤ (h (29 + 2 * s.toNatClampNeg) 1).toInt ∧ (h (29 + 2 * s.toNatClampNeg) 1).toInt ≤ 60) ∧ (¬ jfound (h (29 + 2 * s.toNatClampNeg) 0) l = 0 → Q (some (.int (jfound (h (29 + 2 * s.toNatClampNeg) 0) l))) K h) ∧ (jfound (h (29 + 2 * s.toNatClampNeg) 0) l = 0 → (n < 0 → Q (some (.int (-14))) K h) ∧ (¬ n < 0 → (¬ (0 ≤ f ∧ f ≤ h (29 + 2 * s.toNatClampNeg) 1 - n) → Q (some (.int (-13))) K h) ∧ (0 ≤ f ∧ f ≤ h (29 + 2 * s.toNatClampNeg) 1 - n → (n = 0 → Q (some (.int 0)) K h) ∧ (¬ n = 0 → (¬ (onF x y ∧ onF (x + n - 1) y ∧ ∀ k, k < n.toInt.toNat → 0 ≤ h (30 + 2 * s.toNatClampNeg) (f.toInt.toNat + k) ∧ h (30 + 2 * s.toNatClampNeg) (f.toInt.toNat + k) ≤ h 1 1 - 1) → Q (some (.int (-1))) K h) ∧ ((onF x y ∧ onF (x + n - 1) y ∧ ∀ k, k < n.toInt.toNat → 0 ≤ h (30 + 2 * s.toNatClampNeg) (f.toInt.toNat + k) ∧ h (30 + 2 * s.toNatClampNeg) (f.toInt.toNat + k) ≤ h 1 1 - 1) → Q (some (.int n)) K (up2 (upr h 2 (va_cpy (h (30 + 2 * s.toNatClampNeg)) (h 2) f.toNatClampNeg (jpl x y).toNatClampNeg n.toNatClampNeg)) 24 1 1)))))))) (H0 : jHd cd_X6_lay G Q sg_X6_lay_0 0) : G 0 [some (.ref 0), some (.int s), some (.int l), some (.int f), some (.int n), some (.int x), some (.int y), none, none, none] [] K h 0 0 := by
  obtain ⟨hX, hT0, hT1⟩ := hT
  refine H0 120 _ _ _ _ _ _ ?_
  by_cases c1 : 0 ≤ s ∧ s ≤ 3
  · obtain ⟨j, hj, rfl⟩ := sh_of c1
    have h31 : j < 2147483648 := by omega
    have hv : vp_in (nI j) 4 := vp_in_nI hj (by decide)
    have hS : isSh (29 + 2 * j) := ⟨j, hj, rfl⟩
    have h9 : 29 + 2 * j + 1 = 30 + 2 * j := by omega
    by_cases c2 : 0 ≤ l ∧ l ≤ 2
    · obtain ⟨hle, hT1, hT2⟩ := hT1 ⟨c1, c2⟩
      rw [nI_clamp h31] at hT1 hT2 hle
      by_cases c3 : jfound (h (29 + 2 * j) 0) l = 0
      · obtain ⟨hT2, hT3⟩ := hT2 c3
        by_cases c4 : n < 0
        · have hT2 := hT2 c4
          simp only [sg_X6_lay_0, sg_X6_lay_14, sg_X6_lay_16, sg_X6_lay_40, sg_X6_lay_48, sg_X6_lay_62, sg_X6_lay_69, sg_X6_lay_116, sg_X6_lay_118, cd_X6_lay, jwp, o_ic, o_lc, o_iload, o_lload, o_aload, o_istore, o_lstore, o_astore, o_iinc, o_pop, o_dup, o_dup2, o_iadd, o_isub, o_imul, o_iand, o_ior, o_ishl, o_ladd, o_lmul, o_land, o_lor, o_idiv, o_irem, o_ineg, o_i2l, o_l2i, o_i2b, o_i2s, o_lushr, o_lshr, o_lshl, o_lcmp, o_ifeq, o_ifne, o_iflt, o_ifge, o_ifgt, o_ifle, o_iceq, o_icne, o_iclt, o_icge, o_icgt, o_icle, o_goto, o_tsw, jsw, o_lsw, jlk, o_getf, o_putf, o_putz, o_iald, o_zald, o_iast, o_zast, o_aald, o_alen, o_gets, o_zld, o_zlen, o_cpy, o_call, o_callV, o_ireti, o_iretz, o_lret, o_vret, jg, js, jkp, jkill, jsp, jcs, jfw, jov, Value.category, Option.toList_some, Option.toList_none, List.nil_append, List.cons_append, List.append_nil, Nat.reduceAdd, true_and, and_true, jb0, jb01, jb1, jem, true_or, or_true, Classical.not_not, forall_const, List.length_cons, List.length_nil, Nat.reduceLeDiff, Nat.zero_le, Nat.reduceLT, and_self, not_true_eq_false, not_false_eq_true, false_imp_iff, true_imp_iff, implies_true, and_false, false_and, or_false, false_or, hX, kx_0_0 hX, kx_0_1 hX, kx_0_2 hX, kx_0_3 hX, kx_0_4 hX, kx_0_5 hX, kx_0_6 hX, kx_0_7 hX, kx_0_8 hX, kxo_0 hX, kx_1_0 hX, kx_1_1 hX, kx_1_2 hX, kx_1_3 hX, kxo_1 hX, kx_4_0 hX, kx_4_1 hX, kx_4_2 hX, kxo_4 hX, kx_19_0 hX, kx_19_1 hX, kx_19_2 hX, kx_19_3 hX, kx_19_4 hX, kxo_19 hX, kx_24_0 hX, kx_24_1 hX, kx_24_2 hX, kx_24_3 hX, kx_24_4 hX, kx_24_5 hX, kx_24_6 hX, kxo_24 hX, kxa_2 hX, kxa_3 hX, kxa_6 hX, kxa_7 hX, kxa_8 hX, kxa_9 hX, kxa_10 hX, kxa_18 hX, kxa_20 hX, kxa_21 hX, kxa_22 hX, kxa_23 hX, kxa_26 hX, kxa_27 hX, kxr_5 hX, kxr_11 hX, kxr_28 hX, T_X6_isSheet, T_X6_isLane, T_X5_foundAs, T_X5_hasItems, T_X5_areColours, T_X6_placeOf, T_X2_spoil, c1, c2, c3, c4, Int32.not_le.mpr c4, nI_clamp h31, kx_shs hj, hv, hS, kxs_0 hX hj, kxs_1 hX hj, kxs_2 hX hj, kxs_o hX hj, kxs_a hX hj]
          exact hT2
        · have c4' : 0 ≤ n := Int32.not_lt.mp c4
          obtain ⟨hT3, hT4⟩ := hT3 c4
          by_cases c5 : 0 ≤ f ∧ f ≤ h (29 + 2 * j) 1 - n
          · have hfn := items_in c5 c4' hle
            obtain ⟨hT4, hT5⟩ := hT4 c5
            by_cases c6 : n = 0
            · have hT4 := hT4 c6
              simp only [sg_X6_lay_0, sg_X6_lay_14, sg_X6_lay_16, sg_X6_lay_40, sg_X6_lay_48, sg_X6_lay_62, sg_X6_lay_69, sg_X6_lay_116, sg_X6_lay_118, cd_X6_lay, jwp, o_ic, o_lc, o_iload, o_lload, o_aload, o_istore, o_lstore, o_astore, o_iinc, o_pop, o_dup, o_dup2, o_iadd, o_isub, o_imul, o_iand, o_ior, o_ishl, o_ladd, o_lmul, o_land, o_lor, o_idiv, o_irem, o_ineg, o_i2l, o_l2i, o_i2b, o_i2s, o_lushr, o_lshr, o_lshl, o_lcmp, o_ifeq, o_ifne, o_iflt, o_ifge, o_ifgt, o_ifle, o_iceq, o_icne, o_iclt, o_icge, o_icgt, o_icle, o_goto, o_tsw, jsw, o_lsw, jlk, o_getf, o_putf, o_putz, o_iald, o_zald, o_iast, o_zast, o_aald, o_alen, o_gets, o_zld, o_zlen, o_cpy, o_call, o_callV, o_ireti, o_iretz, o_lret, o_vret, jg, js, jkp, jkill, jsp, jcs, jfw, jov, Value.category, Option.toList_some, Option.toList_none, List.nil_append, List.cons_append, List.append_nil, Nat.reduceAdd, true_and, and_true, jb0, jb01, jb1, jem, true_or, or_true, Classical.not_not, forall_const, List.length_cons, List.length_nil, Nat.reduceLeDiff, Nat.zero_le, Nat.reduceLT, and_self, not_true_eq_false, not_false_eq_true, false_imp_iff, true_imp_iff, implies_true, and_false, false_and, or_false, false_or, hX, kx_0_0 hX, kx_0_1 hX, kx_0_2 hX, kx_0_3 hX, kx_0_4 hX, kx_0_5 hX, kx_0_6 hX, kx_0_7 hX, kx_0_8 hX, kxo_0 hX, kx_1_0 hX, kx_1_1 hX, kx_1_2 hX, kx_1_3 hX, kxo_1 hX, kx_4_0 hX, kx_4_1 hX, kx_4_2 hX, kxo_4 hX, kx_19_0 hX, kx_19_1 hX, kx_19_2 hX, kx_19_3 hX, kx_19_4 hX, kxo_19 hX, kx_24_0 hX, kx_24_1 hX, kx_24_2 hX, kx_24_3 hX, kx_24_4 hX, kx_24_5 hX, kx_24_6 hX, kxo_24 hX, kxa_2 hX, kxa_3 hX, kxa_6 hX, kxa_7 hX, kxa_8 hX, kxa_9 hX, kxa_10 hX, kxa_18 hX, kxa_20 hX, kxa_21 hX, kxa_22 hX, kxa_23 hX, kxa_26 hX, kxa_27 hX, kxr_5 hX, kxr_11 hX, kxr_28 hX, T_X6_isSheet, T_X6_isLane, T_X5_foundAs, T_X5_hasItems, T_X5_areColours, T_X6_placeOf, T_X2_spoil, c1, c2, c3, c4', c5, c6, nI_clamp h31, kx_shs hj, hv, hS, kxs_0 hX hj, kxs_1 hX hj, kxs_2 hX hj, kxs_o hX hj, kxs_a hX hj]
              first | exact hT4 | exact ⟨trivial, hT4⟩ | (subst c6; first | exact hT4 | grind)
            · obtain ⟨hT5, hT6⟩ := hT5 c6
              by_cases c7 : onF x y
              · have hp := jpl_in c7
                have hp3 : 0 ≤ jpl x y := by rw [Int32.le_iff_toInt_le]; exact (vp_in_iff.mp hp).1
                have hp2 : (jpl x y < 0) = False := eq_false (Int32.not_lt.mpr hp3)
                by_cases c8 : onF (x + n - 1) y
                · have hq := jpl_in c8
                  have hq3 : 0 ≤ jpl (x + n - 1) y := by rw [Int32.le_iff_toInt_le]; exact (vp_in_iff.mp hq).1
                  have hq2 : (jpl (x + n - 1) y < 0) = False := eq_false (Int32.not_lt.mpr hq3)
                  by_cases c9 : ∀ k, k < n.toInt.toNat → 0 ≤ h (30 + 2 * j) (f.toInt.toNat + k) ∧ h (30 + 2 * j) (f.toInt.toNat + k) ≤ h 1 1 - 1
                  · have hT6 := hT6 ⟨c7, c8, c9⟩
                    have hf0 : ¬ f < 0 := Int32.not_lt.mpr c5.1
                    have e1 : f.toNatClampNeg + n.toNatClampNeg ≤ 60 := by
                      have := clamp_int hfn.1
                      have := clamp_int hfn.2.1
                      omega
                    have e2 : (jpl x y).toNatClampNeg + n.toNatClampNeg ≤ 57600 := row_in c7 c8 hfn.2.1 (by omega)
                    simp only [sg_X6_lay_0, sg_X6_lay_14, sg_X6_lay_16, sg_X6_lay_40, sg_X6_lay_48, sg_X6_lay_62, sg_X6_lay_69, sg_X6_lay_116, sg_X6_lay_118, cd_X6_lay, jwp, o_ic, o_lc, o_iload, o_lload, o_aload, o_istore, o_lstore, o_astore, o_iinc, o_pop, o_dup, o_dup2, o_iadd, o_isub, o_imul, o_iand, o_ior, o_ishl, o_ladd, o_lmul, o_land, o_lor, o_idiv, o_irem, o_ineg, o_i2l, o_l2i, o_i2b, o_i2s, o_lushr, o_lshr, o_lshl, o_lcmp, o_ifeq, o_ifne, o_iflt, o_ifge, o_ifgt, o_ifle, o_iceq, o_icne, o_iclt, o_icge, o_icgt, o_icle, o_goto, o_tsw, jsw, o_lsw, jlk, o_getf, o_putf, o_putz, o_iald, o_zald, o_iast, o_zast, o_aald, o_alen, o_gets, o_zld, o_zlen, o_cpy, o_call, o_callV, o_ireti, o_iretz, o_lret, o_vret, jg, js, jkp, jkill, jsp, jcs, jfw, jov, Value.category, Option.toList_some, Option.toList_none, List.nil_append, List.cons_append, List.append_nil, Nat.reduceAdd, true_and, and_true, jb0, jb01, jb1, jem, true_or, or_true, Classical.not_not, forall_const, List.length_cons, List.length_nil, Nat.reduceLeDiff, Nat.zero_le, Nat.reduceLT, and_self, not_true_eq_false, not_false_eq_true, false_imp_iff, true_imp_iff, implies_true, and_false, false_and, or_false, false_or, hX, kx_0_0 hX, kx_0_1 hX, kx_0_2 hX, kx_0_3 hX, kx_0_4 hX, kx_0_5 hX, kx_0_6 hX, kx_0_7 hX, kx_0_8 hX, kxo_0 hX, kx_1_0 hX, kx_1_1 hX, kx_1_2 hX, kx_1_3 hX, kxo_1 hX, kx_4_0 hX, kx_4_1 hX, kx_4_2 hX, kxo_4 hX, kx_19_0 hX, kx_19_1 hX, kx_19_2 hX, kx_19_3 hX, kx_19_4 hX, kxo_19 hX, kx_24_0 hX, kx_24_1 hX, kx_24_2 hX, kx_24_3 hX, kx_24_4 hX, kx_24_5 hX, kx_24_6 hX, kxo_24 hX, kxa_2 hX, kxa_3 hX, kxa_6 hX, kxa_7 hX, kxa_8 hX, kxa_9 hX, kxa_10 hX, kxa_18 hX, kxa_20 hX, kxa_21 hX, kxa_22 hX, kxa_23 hX, kxa_26 hX, kxa_27 hX, kxr_5 hX, kxr_11 hX, kxr_28 hX, T_X6_isSheet, T_X6_isLane, T_X5_foundAs, T_X5_hasItems, T_X5_areColours, T_X6_placeOf, T_X2_spoil, c1, c2, c3, c4', c4, c5, c6, hp2, hq2, hp3, hq3, hfn, h9, hf0, e1, e2, List.map_nil, List.sum_nil, nI_clamp h31, kx_shs hj, hv, hS, kxs_0 hX hj, kxs_1 hX hj, kxs_2 hX hj, kxs_o hX hj, kxs_a hX hj]
                    exact ⟨fun _ => hT6, fun z => absurd c9 z⟩
                  · have hT5 := hT5 (fun z => c9 z.2.2)
                    simp only [sg_X6_lay_0, sg_X6_lay_14, sg_X6_lay_16, sg_X6_lay_40, sg_X6_lay_48, sg_X6_lay_62, sg_X6_lay_69, sg_X6_lay_116, sg_X6_lay_118, cd_X6_lay, jwp, o_ic, o_lc, o_iload, o_lload, o_aload, o_istore, o_lstore, o_astore, o_iinc, o_pop, o_dup, o_dup2, o_iadd, o_isub, o_imul, o_iand, o_ior, o_ishl, o_ladd, o_lmul, o_land, o_lor, o_idiv, o_irem, o_ineg, o_i2l, o_l2i, o_i2b, o_i2s, o_lushr, o_lshr, o_lshl, o_lcmp, o_ifeq, o_ifne, o_iflt, o_ifge, o_ifgt, o_ifle, o_iceq, o_icne, o_iclt, o_icge, o_icgt, o_icle, o_goto, o_tsw, jsw, o_lsw, jlk, o_getf, o_putf, o_putz, o_iald, o_zald, o_iast, o_zast, o_aald, o_alen, o_gets, o_zld, o_zlen, o_cpy, o_call, o_callV, o_ireti, o_iretz, o_lret, o_vret, jg, js, jkp, jkill, jsp, jcs, jfw, jov, Value.category, Option.toList_some, Option.toList_none, List.nil_append, List.cons_append, List.append_nil, Nat.reduceAdd, true_and, and_true, jb0, jb01, jb1, jem, true_or, or_true, Classical.not_not, forall_const, List.length_cons, List.length_nil, Nat.reduceLeDiff, Nat.zero_le, Nat.reduceLT, and_self, not_true_eq_false, not_false_eq_true, false_imp_iff, true_imp_iff, implies_true, and_false, false_and, or_false, false_or, hX, kx_0_0 hX, kx_0_1 hX, kx_0_2 hX, kx_0_3 hX, kx_0_4 hX, kx_0_5 hX, kx_0_6 hX, kx_0_7 hX, kx_0_8 hX, kxo_0 hX, kx_1_0 hX, kx_1_1 hX, kx_1_2 hX, kx_1_3 hX, kxo_1 hX, kx_4_0 hX, kx_4_1 hX, kx_4_2 hX, kxo_4 hX, kx_19_0 hX, kx_19_1 hX, kx_19_2 hX, kx_19_3 hX, kx_19_4 hX, kxo_19 hX, kx_24_0 hX, kx_24_1 hX, kx_24_2 hX, kx_24_3 hX, kx_24_4 hX, kx_24_5 hX, kx_24_6 hX, kxo_24 hX, kxa_2 hX, kxa_3 hX, kxa_6 hX, kxa_7 hX, kxa_8 hX, kxa_9 hX, kxa_10 hX, kxa_18 hX, kxa_20 hX, kxa_21 hX, kxa_22 hX, kxa_23 hX, kxa_26 hX, kxa_27 hX, kxr_5 hX, kxr_11 hX, kxr_28 hX, T_X6_isSheet, T_X6_isLane, T_X5_foundAs, T_X5_hasItems, T_X5_areColours, T_X6_placeOf, T_X2_spoil, c1, c2, c3, c4', c5, c6, hp2, hq2, hp3, hq3, hfn, h9, c9, nI_clamp h31, kx_shs hj, hv, hS, kxs_0 hX hj, kxs_1 hX hj, kxs_2 hX hj, kxs_o hX hj, kxs_a hX hj]
                    exact hT5
                · have hT5 := hT5 (fun z => c8 z.2.1)
                  have e : jpl (x + n - 1) y = -1 := jpl_off c8
                  have e2 : ((-1 : Int32) < 0) = True := by simp
                  simp only [sg_X6_lay_0, sg_X6_lay_14, sg_X6_lay_16, sg_X6_lay_40, sg_X6_lay_48, sg_X6_lay_62, sg_X6_lay_69, sg_X6_lay_116, sg_X6_lay_118, cd_X6_lay, jwp, o_ic, o_lc, o_iload, o_lload, o_aload, o_istore, o_lstore, o_astore, o_iinc, o_pop, o_dup, o_dup2, o_iadd, o_isub, o_imul, o_iand, o_ior, o_ishl, o_ladd, o_lmul, o_land, o_lor, o_idiv, o_irem, o_ineg, o_i2l, o_l2i, o_i2b, o_i2s, o_lushr, o_lshr, o_lshl, o_lcmp, o_ifeq, o_ifne, o_iflt, o_ifge, o_ifgt, o_ifle, o_iceq, o_icne, o_iclt, o_icge, o_icgt, o_icle, o_goto, o_tsw, jsw, o_lsw, jlk, o_getf, o_putf, o_putz, o_iald, o_zald, o_iast, o_zast, o_aald, o_alen, o_gets, o_zld, o_zlen, o_cpy, o_call, o_callV, o_ireti, o_iretz, o_lret, o_vret, jg, js, jkp, jkill, jsp, jcs, jfw, jov, Value.category, Option.toList_some, Option.toList_none, List.nil_append, List.cons_append, List.append_nil, Nat.reduceAdd, true_and, and_true, jb0, jb01, jb1, jem, true_or, or_true, Classical.not_not, forall_const, List.length_cons, List.length_nil, Nat.reduceLeDiff, Nat.zero_le, Nat.reduceLT, and_self, not_true_eq_false, not_false_eq_true, false_imp_iff, true_imp_iff, implies_true, and_false, false_and, or_false, false_or, hX, kx_0_0 hX, kx_0_1 hX, kx_0_2 hX, kx_0_3 hX, kx_0_4 hX, kx_0_5 hX, kx_0_6 hX, kx_0_7 hX, kx_0_8 hX, kxo_0 hX, kx_1_0 hX, kx_1_1 hX, kx_1_2 hX, kx_1_3 hX, kxo_1 hX, kx_4_0 hX, kx_4_1 hX, kx_4_2 hX, kxo_4 hX, kx_19_0 hX, kx_19_1 hX, kx_19_2 hX, kx_19_3 hX, kx_19_4 hX, kxo_19 hX, kx_24_0 hX, kx_24_1 hX, kx_24_2 hX, kx_24_3 hX, kx_24_4 hX, kx_24_5 hX, kx_24_6 hX, kxo_24 hX, kxa_2 hX, kxa_3 hX, kxa_6 hX, kxa_7 hX, kxa_8 hX, kxa_9 hX, kxa_10 hX, kxa_18 hX, kxa_20 hX, kxa_21 hX, kxa_22 hX, kxa_23 hX, kxa_26 hX, kxa_27 hX, kxr_5 hX, kxr_11 hX, kxr_28 hX, T_X6_isSheet, T_X6_isLane, T_X5_foundAs, T_X5_hasItems, T_X5_areColours, T_X6_placeOf, T_X2_spoil, c1, c2, c3, c4', c5, c6, hp2, hp3, e, e2, nI_clamp h31, kx_shs hj, hv, hS, kxs_0 hX hj, kxs_1 hX hj, kxs_2 hX hj, kxs_o hX hj, kxs_a hX hj]
                  exact hT5
              · have hT5 := hT5 (fun z => c7 z.1)
                have e : jpl x y = -1 := jpl_off c7
                have e2 : ((-1 : Int32) < 0) = True := by simp
                simp only [sg_X6_lay_0, sg_X6_lay_14, sg_X6_lay_16, sg_X6_lay_40, sg_X6_lay_48, sg_X6_lay_62, sg_X6_lay_69, sg_X6_lay_116, sg_X6_lay_118, cd_X6_lay, jwp, o_ic, o_lc, o_iload, o_lload, o_aload, o_istore, o_lstore, o_astore, o_iinc, o_pop, o_dup, o_dup2, o_iadd, o_isub, o_imul, o_iand, o_ior, o_ishl, o_ladd, o_lmul, o_land, o_lor, o_idiv, o_irem, o_ineg, o_i2l, o_l2i, o_i2b, o_i2s, o_lushr, o_lshr, o_lshl, o_lcmp, o_ifeq, o_ifne, o_iflt, o_ifge, o_ifgt, o_ifle, o_iceq, o_icne, o_iclt, o_icge, o_icgt, o_icle, o_goto, o_tsw, jsw, o_lsw, jlk, o_getf, o_putf, o_putz, o_iald, o_zald, o_iast, o_zast, o_aald, o_alen, o_gets, o_zld, o_zlen, o_cpy, o_call, o_callV, o_ireti, o_iretz, o_lret, o_vret, jg, js, jkp, jkill, jsp, jcs, jfw, jov, Value.category, Option.toList_some, Option.toList_none, List.nil_append, List.cons_append, List.append_nil, Nat.reduceAdd, true_and, and_true, jb0, jb01, jb1, jem, true_or, or_true, Classical.not_not, forall_const, List.length_cons, List.length_nil, Nat.reduceLeDiff, Nat.zero_le, Nat.reduceLT, and_self, not_true_eq_false, not_false_eq_true, false_imp_iff, true_imp_iff, implies_true, and_false, false_and, or_false, false_or, hX, kx_0_0 hX, kx_0_1 hX, kx_0_2 hX, kx_0_3 hX, kx_0_4 hX, kx_0_5 hX, kx_0_6 hX, kx_0_7 hX, kx_0_8 hX, kxo_0 hX, kx_1_0 hX, kx_1_1 hX, kx_1_2 hX, kx_1_3 hX, kxo_1 hX, kx_4_0 hX, kx_4_1 hX, kx_4_2 hX, kxo_4 hX, kx_19_0 hX, kx_19_1 hX, kx_19_2 hX, kx_19_3 hX, kx_19_4 hX, kxo_19 hX, kx_24_0 hX, kx_24_1 hX, kx_24_2 hX, kx_24_3 hX, kx_24_4 hX, kx_24_5 hX, kx_24_6 hX, kxo_24 hX, kxa_2 hX, kxa_3 hX, kxa_6 hX, kxa_7 hX, kxa_8 hX, kxa_9 hX, kxa_10 hX, kxa_18 hX, kxa_20 hX, kxa_21 hX, kxa_22 hX, kxa_23 hX, kxa_26 hX, kxa_27 hX, kxr_5 hX, kxr_11 hX, kxr_28 hX, T_X6_isSheet, T_X6_isLane, T_X5_foundAs, T_X5_hasItems, T_X5_areColours, T_X6_placeOf, T_X2_spoil, c1, c2, c3, c4', c5, c6, e, e2, nI_clamp h31, kx_shs hj, hv, hS, kxs_0 hX hj, kxs_1 hX hj, kxs_2 hX hj, kxs_o hX hj, kxs_a hX hj]
                exact hT5
          · have hT3 := hT3 c5
            simp only [sg_X6_lay_0, sg_X6_lay_14, sg_X6_lay_16, sg_X6_lay_40, sg_X6_lay_48, sg_X6_lay_62, sg_X6_lay_69, sg_X6_lay_116, sg_X6_lay_118, cd_X6_lay, jwp, o_ic, o_lc, o_iload, o_lload, o_aload, o_istore, o_lstore, o_astore, o_iinc, o_pop, o_dup, o_dup2, o_iadd, o_isub, o_imul, o_iand, o_ior, o_ishl, o_ladd, o_lmul, o_land, o_lor, o_idiv, o_irem, o_ineg, o_i2l, o_l2i, o_i2b, o_i2s, o_lushr, o_lshr, o_lshl, o_lcmp, o_ifeq, o_ifne, o_iflt, o_ifge, o_ifgt, o_ifle, o_iceq, o_icne, o_iclt, o_icge, o_icgt, o_icle, o_goto, o_tsw, jsw, o_lsw, jlk, o_getf, o_putf, o_putz, o_iald, o_zald, o_iast, o_zast, o_aald, o_alen, o_gets, o_zld, o_zlen, o_cpy, o_call, o_callV, o_ireti, o_iretz, o_lret, o_vret, jg, js, jkp, jkill, jsp, jcs, jfw, jov, Value.category, Option.toList_some, Option.toList_none, List.nil_append, List.cons_append, List.append_nil, Nat.reduceAdd, true_and, and_true, jb0, jb01, jb1, jem, true_or, or_true, Classical.not_not, forall_const, List.length_cons, List.length_nil, Nat.reduceLeDiff, Nat.zero_le, Nat.reduceLT, and_self, not_true_eq_false, not_false_eq_true, false_imp_iff, true_imp_iff, implies_true, and_false, false_and, or_false, false_or, hX, kx_0_0 hX, kx_0_1 hX, kx_0_2 hX, kx_0_3 hX, kx_0_4 hX, kx_0_5 hX, kx_0_6 hX, kx_0_7 hX, kx_0_8 hX, kxo_0 hX, kx_1_0 hX, kx_1_1 hX, kx_1_2 hX, kx_1_3 hX, kxo_1 hX, kx_4_0 hX, kx_4_1 hX, kx_4_2 hX, kxo_4 hX, kx_19_0 hX, kx_19_1 hX, kx_19_2 hX, kx_19_3 hX, kx_19_4 hX, kxo_19 hX, kx_24_0 hX, kx_24_1 hX, kx_24_2 hX, kx_24_3 hX, kx_24_4 hX, kx_24_5 hX, kx_24_6 hX, kxo_24 hX, kxa_2 hX, kxa_3 hX, kxa_6 hX, kxa_7 hX, kxa_8 hX, kxa_9 hX, kxa_10 hX, kxa_18 hX, kxa_20 hX, kxa_21 hX, kxa_22 hX, kxa_23 hX, kxa_26 hX, kxa_27 hX, kxr_5 hX, kxr_11 hX, kxr_28 hX, T_X6_isSheet, T_X6_isLane, T_X5_foundAs, T_X5_hasItems, T_X5_areColours, T_X6_placeOf, T_X2_spoil, c1, c2, c3, c4', c5, nI_clamp h31, kx_shs hj, hv, hS, kxs_0 hX hj, kxs_1 hX hj, kxs_2 hX hj, kxs_o hX hj, kxs_a hX hj]
            exact hT3
      · have hT1 := hT1 c3
        simp only [sg_X6_lay_0, sg_X6_lay_14, sg_X6_lay_16, sg_X6_lay_40, sg_X6_lay_48, sg_X6_lay_62, sg_X6_lay_69, sg_X6_lay_116, sg_X6_lay_118, cd_X6_lay, jwp, o_ic, o_lc, o_iload, o_lload, o_aload, o_istore, o_lstore, o_astore, o_iinc, o_pop, o_dup, o_dup2, o_iadd, o_isub, o_imul, o_iand, o_ior, o_ishl, o_ladd, o_lmul, o_land, o_lor, o_idiv, o_irem, o_ineg, o_i2l, o_l2i, o_i2b, o_i2s, o_lushr, o_lshr, o_lshl, o_lcmp, o_ifeq, o_ifne, o_iflt, o_ifge, o_ifgt, o_ifle, o_iceq, o_icne, o_iclt, o_icge, o_icgt, o_icle, o_goto, o_tsw, jsw, o_lsw, jlk, o_getf, o_putf, o_putz, o_iald, o_zald, o_iast, o_zast, o_aald, o_alen, o_gets, o_zld, o_zlen, o_cpy, o_call, o_callV, o_ireti, o_iretz, o_lret, o_vret, jg, js, jkp, jkill, jsp, jcs, jfw, jov, Value.category, Option.toList_some, Option.toList_none, List.nil_append, List.cons_append, List.append_nil, Nat.reduceAdd, true_and, and_true, jb0, jb01, jb1, jem, true_or, or_true, Classical.not_not, forall_const, List.length_cons, List.length_nil, Nat.reduceLeDiff, Nat.zero_le, Nat.reduceLT, and_self, not_true_eq_false, not_false_eq_true, false_imp_iff, true_imp_iff, implies_true, and_false, false_and, or_false, false_or, hX, kx_0_0 hX, kx_0_1 hX, kx_0_2 hX, kx_0_3 hX, kx_0_4 hX, kx_0_5 hX, kx_0_6 hX, kx_0_7 hX, kx_0_8 hX, kxo_0 hX, kx_1_0 hX, kx_1_1 hX, kx_1_2 hX, kx_1_3 hX, kxo_1 hX, kx_4_0 hX, kx_4_1 hX, kx_4_2 hX, kxo_4 hX, kx_19_0 hX, kx_19_1 hX, kx_19_2 hX, kx_19_3 hX, kx_19_4 hX, kxo_19 hX, kx_24_0 hX, kx_24_1 hX, kx_24_2 hX, kx_24_3 hX, kx_24_4 hX, kx_24_5 hX, kx_24_6 hX, kxo_24 hX, kxa_2 hX, kxa_3 hX, kxa_6 hX, kxa_7 hX, kxa_8 hX, kxa_9 hX, kxa_10 hX, kxa_18 hX, kxa_20 hX, kxa_21 hX, kxa_22 hX, kxa_23 hX, kxa_26 hX, kxa_27 hX, kxr_5 hX, kxr_11 hX, kxr_28 hX, T_X6_isSheet, T_X6_isLane, T_X5_foundAs, T_X5_hasItems, T_X5_areColours, T_X6_placeOf, T_X2_spoil, c1, c2, c3, nI_clamp h31, kx_shs hj, hv, hS, kxs_0 hX hj, kxs_1 hX hj, kxs_2 hX hj, kxs_o hX hj, kxs_a hX hj]
        exact hT1
    · have hT0 := hT0 (fun z => c2 z.2)
      simp only [sg_X6_lay_0, sg_X6_lay_14, sg_X6_lay_16, sg_X6_lay_40, sg_X6_lay_48, sg_X6_lay_62, sg_X6_lay_69, sg_X6_lay_116, sg_X6_lay_118, cd_X6_lay, jwp, o_ic, o_lc, o_iload, o_lload, o_aload, o_istore, o_lstore, o_astore, o_iinc, o_pop, o_dup, o_dup2, o_iadd, o_isub, o_imul, o_iand, o_ior, o_ishl, o_ladd, o_lmul, o_land, o_lor, o_idiv, o_irem, o_ineg, o_i2l, o_l2i, o_i2b, o_i2s, o_lushr, o_lshr, o_lshl, o_lcmp, o_ifeq, o_ifne, o_iflt, o_ifge, o_ifgt, o_ifle, o_iceq, o_icne, o_iclt, o_icge, o_icgt, o_icle, o_goto, o_tsw, jsw, o_lsw, jlk, o_getf, o_putf, o_putz, o_iald, o_zald, o_iast, o_zast, o_aald, o_alen, o_gets, o_zld, o_zlen, o_cpy, o_call, o_callV, o_ireti, o_iretz, o_lret, o_vret, jg, js, jkp, jkill, jsp, jcs, jfw, jov, Value.category, Option.toList_some, Option.toList_none, List.nil_append, List.cons_append, List.append_nil, Nat.reduceAdd, true_and, and_true, jb0, jb01, jb1, jem, true_or, or_true, Classical.not_not, forall_const, List.length_cons, List.length_nil, Nat.reduceLeDiff, Nat.zero_le, Nat.reduceLT, and_self, not_true_eq_false, not_false_eq_true, false_imp_iff, true_imp_iff, implies_true, and_false, false_and, or_false, false_or, hX, kx_0_0 hX, kx_0_1 hX, kx_0_2 hX, kx_0_3 hX, kx_0_4 hX, kx_0_5 hX, kx_0_6 hX, kx_0_7 hX, kx_0_8 hX, kxo_0 hX, kx_1_0 hX, kx_1_1 hX, kx_1_2 hX, kx_1_3 hX, kxo_1 hX, kx_4_0 hX, kx_4_1 hX, kx_4_2 hX, kxo_4 hX, kx_19_0 hX, kx_19_1 hX, kx_19_2 hX, kx_19_3 hX, kx_19_4 hX, kxo_19 hX, kx_24_0 hX, kx_24_1 hX, kx_24_2 hX, kx_24_3 hX, kx_24_4 hX, kx_24_5 hX, kx_24_6 hX, kxo_24 hX, kxa_2 hX, kxa_3 hX, kxa_6 hX, kxa_7 hX, kxa_8 hX, kxa_9 hX, kxa_10 hX, kxa_18 hX, kxa_20 hX, kxa_21 hX, kxa_22 hX, kxa_23 hX, kxa_26 hX, kxa_27 hX, kxr_5 hX, kxr_11 hX, kxr_28 hX, T_X6_isSheet, T_X6_isLane, T_X5_foundAs, T_X5_hasItems, T_X5_areColours, T_X6_placeOf, T_X2_spoil, c1, c2]
      exact hT0
  · have hT0 := hT0 (fun z => c1 z.1)
    simp only [sg_X6_lay_0, sg_X6_lay_14, sg_X6_lay_16, sg_X6_lay_40, sg_X6_lay_48, sg_X6_lay_62, sg_X6_lay_69, sg_X6_lay_116, sg_X6_lay_118, cd_X6_lay, jwp, o_ic, o_lc, o_iload, o_lload, o_aload, o_istore, o_lstore, o_astore, o_iinc, o_pop, o_dup, o_dup2, o_iadd, o_isub, o_imul, o_iand, o_ior, o_ishl, o_ladd, o_lmul, o_land, o_lor, o_idiv, o_irem, o_ineg, o_i2l, o_l2i, o_i2b, o_i2s, o_lushr, o_lshr, o_lshl, o_lcmp, o_ifeq, o_ifne, o_iflt, o_ifge, o_ifgt, o_ifle, o_iceq, o_icne, o_iclt, o_icge, o_icgt, o_icle, o_goto, o_tsw, jsw, o_lsw, jlk, o_getf, o_putf, o_putz, o_iald, o_zald, o_iast, o_zast, o_aald, o_alen, o_gets, o_zld, o_zlen, o_cpy, o_call, o_callV, o_ireti, o_iretz, o_lret, o_vret, jg, js, jkp, jkill, jsp, jcs, jfw, jov, Value.category, Option.toList_some, Option.toList_none, List.nil_append, List.cons_append, List.append_nil, Nat.reduceAdd, true_and, and_true, jb0, jb01, jb1, jem, true_or, or_true, Classical.not_not, forall_const, List.length_cons, List.length_nil, Nat.reduceLeDiff, Nat.zero_le, Nat.reduceLT, and_self, not_true_eq_false, not_false_eq_true, false_imp_iff, true_imp_iff, implies_true, and_false, false_and, or_false, false_or, hX, kx_0_0 hX, kx_0_1 hX, kx_0_2 hX, kx_0_3 hX, kx_0_4 hX, kx_0_5 hX, kx_0_6 hX, kx_0_7 hX, kx_0_8 hX, kxo_0 hX, kx_1_0 hX, kx_1_1 hX, kx_1_2 hX, kx_1_3 hX, kxo_1 hX, kx_4_0 hX, kx_4_1 hX, kx_4_2 hX, kxo_4 hX, kx_19_0 hX, kx_19_1 hX, kx_19_2 hX, kx_19_3 hX, kx_19_4 hX, kxo_19 hX, kx_24_0 hX, kx_24_1 hX, kx_24_2 hX, kx_24_3 hX, kx_24_4 hX, kx_24_5 hX, kx_24_6 hX, kxo_24 hX, kxa_2 hX, kxa_3 hX, kxa_6 hX, kxa_7 hX, kxa_8 hX, kxa_9 hX, kxa_10 hX, kxa_18 hX, kxa_20 hX, kxa_21 hX, kxa_22 hX, kxa_23 hX, kxa_26 hX, kxa_27 hX, kxr_5 hX, kxr_11 hX, kxr_28 hX, T_X6_isSheet, T_X6_isLane, T_X5_foundAs, T_X5_hasItems, T_X5_areColours, T_X6_placeOf, T_X2_spoil, c1]
    exact hT0
theorem m_X6_lay (l : Launch) : jHolds vwCl l yX6_lay wsX6_lay 2 46 0 0 T_X6_lay := by
  refine m_X6_lay_of l (fun G Q vs K h H0 hT => ?_)
  unfold T_X6_lay at hT
  split at hT
  · obtain ⟨rfl, hT⟩ := hT
    exact ⟨Nat.le_of_ble_eq_true rfl, v_X6_lay hT H0⟩
  · exact hT.elim

/-! X6_copy -/
def T_X6_copy : jT := fun vs K h Q => match vs with
  | [.ref r0, .int s, .int i, .int t, .int j, .int n] => r0 = 0 ∧ (jX K ∧ (¬ ((0 ≤ s ∧ s ≤ 3) ∧ (0 ≤ t ∧ t ≤ 3)) → Q (some (.int (-1))) K h) ∧ ((0 ≤ s ∧ s ≤ 3) ∧ (0 ≤ t ∧ t ≤ 3) → (0 ≤ (h (29 + 2 * s.toNatClampNeg) 1).toInt ∧ (h (29 + 2 * s.toNatClampNeg) 1).toInt ≤ 60) ∧ (0 ≤ (h (29 + 2 * t.toNatClampNeg) 1).toInt ∧ (h (29 + 2 * t.toNatClampNeg) 1).toInt ≤ 60) ∧ ((h (29 + 2 * s.toNatClampNeg) 0 = -1 ∨ h (29 + 2 * t.toNatClampNeg) 0 = -1) → Q (some (.int (-11))) K h) ∧ (¬ (h (29 + 2 * s.toNatClampNeg) 0 = -1 ∨ h (29 + 2 * t.toNatClampNeg) 0 = -1) → (¬ h (29 + 2 * s.toNatClampNeg) 0 = h (29 + 2 * t.toNatClampNeg) 0 → Q (some (.int (-12))) K h) ∧ (h (29 + 2 * s.toNatClampNeg) 0 = h (29 + 2 * t.toNatClampNeg) 0 → (¬ ((0 ≤ i ∧ 0 ≤ n ∧ i ≤ h (29 + 2 * s.toNatClampNeg) 1 - n) ∧ (0 ≤ j ∧ 0 ≤ n ∧ j ≤ h (29 + 2 * t.toNatClampNeg) 1 - n)) → Q (some (.int (-13))) K h) ∧ ((0 ≤ i ∧ 0 ≤ n ∧ i ≤ h (29 + 2 * s.toNatClampNeg) 1 - n) ∧ (0 ≤ j ∧ 0 ≤ n ∧ j ≤ h (29 + 2 * t.toNatClampNeg) 1 - n) → Q (some (.int n)) K (upr h (30 + 2 * t.toNatClampNeg) (va_cpy (h (30 + 2 * s.toNatClampNeg)) (h (30 + 2 * t.toNatClampNeg)) i.toNatClampNeg j.toNatClampNeg n.toNatClampNeg)))))))
  | _ => False
def sg_X6_copy_0 : jS := [(o_iload 1, 1), (o_call 1 T_X6_isSheet, 3), (o_ifeq 14, 3), (o_iload 3, 1), (o_call 1 T_X6_isSheet, 3), (o_ifne 16, 3), (o_ic (-1), 1), (o_ireti, 1)]
def sg_X6_copy_14 : jS := [(o_ic (-1), 1), (o_ireti, 1)]
def sg_X6_copy_16 : jS := [(o_aload 0, 1), (o_getf 6 6, 3), (o_iload 1, 1), (o_aald 3, 1), (o_astore 6, 2), (o_aload 0, 1), (o_getf 6 6, 3), (o_iload 3, 1), (o_aald 3, 1), (o_astore 7, 2), (o_aload 6, 2), (o_callV 1 5 T_X5_isNothing, 3), (o_ifne 48, 3), (o_aload 7, 2), (o_callV 1 5 T_X5_isNothing, 3), (o_ifeq 51, 3), (o_ic (-11), 2), (o_ireti, 1)]
def sg_X6_copy_48 : jS := [(o_ic (-11), 2), (o_ireti, 1)]
def sg_X6_copy_51 : jS := [(o_aload 6, 2), (o_getf 5 0, 3), (o_aload 7, 2), (o_getf 5 0, 3), (o_iceq 67, 3), (o_ic (-12), 2), (o_ireti, 1)]
def sg_X6_copy_67 : jS := [(o_aload 6, 2), (o_iload 2, 1), (o_iload 5, 2), (o_callV 3 5 T_X5_hasItems, 3), (o_ifeq 90, 3), (o_aload 7, 2), (o_iload 4, 2), (o_iload 5, 2), (o_callV 3 5 T_X5_hasItems, 3), (o_ifne 93, 3), (o_ic (-13), 2), (o_ireti, 1)]
def sg_X6_copy_90 : jS := [(o_ic (-13), 2), (o_ireti, 1)]
def sg_X6_copy_93 : jS := [(o_aload 6, 2), (o_getf 5 2, 3), (o_iload 2, 1), (o_aload 7, 2), (o_getf 5 2, 3), (o_iload 4, 2), (o_iload 5, 2), (o_cpy, 3), (o_iload 5, 2), (o_ireti, 1)]
def cd_X6_copy : Nat → jS := fun t => match t with
  | 14 => sg_X6_copy_14
  | 16 => sg_X6_copy_16
  | 48 => sg_X6_copy_48
  | 51 => sg_X6_copy_51
  | 67 => sg_X6_copy_67
  | 90 => sg_X6_copy_90
  | 93 => sg_X6_copy_93
  | _ => []
theorem wl_X6_copy_50 : Cond.fieldLink RX6 50 (TX6 6).1 (TX6 6).2.1 (TX6 6).2.2.1 ∈ wsX6_copy := by decide +kernel
theorem wl_X6_copy_230 : Cond.fieldLink RX6 230 (TX5 2).1 (TX5 2).2.1 (TX5 2).2.2.1 ∈ wsX6_copy := by decide +kernel
theorem wl_X6_copy_245 : Cond.fieldLink RX6 245 (TX5 0).1 (TX5 0).2.1 (TX5 0).2.2.1 ∈ wsX6_copy := by decide +kernel
theorem wi_X6_copy_X5 : ∀ w ∈ u_ws RX5 TX5 3, w ∈ wsX6_copy := by decide +kernel
theorem wi_X6_copy_X6 : ∀ w ∈ u_ws RX6 TX6 9, w ∈ wsX6_copy := by decide +kernel
def E_X6_copy (Γ : jΓ) (Q : jPost) : Prop := Γ.2.2.2.2.2.2.2.2.2.2.1 = 8 ∧ Γ.2.2.2.2.2.2.2.2.2.2.2.1 = vwCl ∧ jC Γ cX6_copy RX6 "copy" (some .int) wsX6_copy 2 42 0 0 ∧ jR Γ Q 0 0
theorem oo_X6_copy_0 {Γ : jΓ} {Q : jPost} (E : E_X6_copy Γ Q) : jSA Γ Q 0 (o_iload 1) 1 := so_iload_n E.2.2.1 rfl dX6_copy_0
theorem oo_X6_copy_1 {Γ : jΓ} {Q : jPost} (E : E_X6_copy Γ Q) : jSA Γ Q 1 (o_call 1 T_X6_isSheet) 3 := so_callS E.2.2.1 gX6_copy_X6_isSheet (by decide +kernel) rfl (by rw [E.2.1]; exact m_X6_isSheet _) (by decide) (by decide) dX6_copy_1
theorem oo_X6_copy_4 {Γ : jΓ} {Q : jPost} (E : E_X6_copy Γ Q) : jSA Γ Q 4 (o_ifeq 14) 3 := so_ifeq E.2.2.1 (by decide) dX6_copy_4
theorem oo_X6_copy_7 {Γ : jΓ} {Q : jPost} (E : E_X6_copy Γ Q) : jSA Γ Q 7 (o_iload 3) 1 := so_iload_n E.2.2.1 rfl dX6_copy_7
theorem oo_X6_copy_8 {Γ : jΓ} {Q : jPost} (E : E_X6_copy Γ Q) : jSA Γ Q 8 (o_call 1 T_X6_isSheet) 3 := so_callS E.2.2.1 gX6_copy_X6_isSheet (by decide +kernel) rfl (by rw [E.2.1]; exact m_X6_isSheet _) (by decide) (by decide) dX6_copy_8
theorem oo_X6_copy_11 {Γ : jΓ} {Q : jPost} (E : E_X6_copy Γ Q) : jSA Γ Q 11 (o_ifne 16) 3 := so_ifne E.2.2.1 (by decide) dX6_copy_11
theorem oo_X6_copy_14 {Γ : jΓ} {Q : jPost} (E : E_X6_copy Γ Q) : jSA Γ Q 14 (o_ic (-1)) 1 := so_iconst E.2.2.1 rfl dX6_copy_14
theorem oo_X6_copy_15 {Γ : jΓ} {Q : jPost} (E : E_X6_copy Γ Q) : jSA Γ Q 15 (o_ireti) 1 := so_ireti E.2.2.1 E.2.2.2 dX6_copy_15
theorem oo_X6_copy_16 {Γ : jΓ} {Q : jPost} (E : E_X6_copy Γ Q) : jSA Γ Q 16 (o_aload 0) 1 := so_aload_n E.2.2.1 rfl dX6_copy_16
theorem oo_X6_copy_17 {Γ : jΓ} {Q : jPost} (E : E_X6_copy Γ Q) : jSA Γ Q 17 (o_getf 6 6) 3 := so_getf (ci := 6) E.2.2.1 wi_X6_copy_X6 (by rw [E.2.1]; rfl) 6 (by decide) wl_X6_copy_50 dX6_copy_17
theorem oo_X6_copy_20 {Γ : jΓ} {Q : jPost} (E : E_X6_copy Γ Q) : jSA Γ Q 20 (o_iload 1) 1 := so_iload_n E.2.2.1 rfl dX6_copy_20
theorem oo_X6_copy_21 {Γ : jΓ} {Q : jPost} (E : E_X6_copy Γ Q) : jSA Γ Q 21 (o_aald 3) 1 := so_aald3 E.2.2.1 dX6_copy_21
theorem oo_X6_copy_22 {Γ : jΓ} {Q : jPost} (E : E_X6_copy Γ Q) : jSA Γ Q 22 (o_astore 6) 2 := so_astore E.2.2.1 (by rw [E.1]; decide) dX6_copy_22
theorem oo_X6_copy_24 {Γ : jΓ} {Q : jPost} (E : E_X6_copy Γ Q) : jSA Γ Q 24 (o_aload 0) 1 := so_aload_n E.2.2.1 rfl dX6_copy_24
theorem oo_X6_copy_25 {Γ : jΓ} {Q : jPost} (E : E_X6_copy Γ Q) : jSA Γ Q 25 (o_getf 6 6) 3 := so_getf (ci := 6) E.2.2.1 wi_X6_copy_X6 (by rw [E.2.1]; rfl) 6 (by decide) wl_X6_copy_50 dX6_copy_25
theorem oo_X6_copy_28 {Γ : jΓ} {Q : jPost} (E : E_X6_copy Γ Q) : jSA Γ Q 28 (o_iload 3) 1 := so_iload_n E.2.2.1 rfl dX6_copy_28
theorem oo_X6_copy_29 {Γ : jΓ} {Q : jPost} (E : E_X6_copy Γ Q) : jSA Γ Q 29 (o_aald 3) 1 := so_aald3 E.2.2.1 dX6_copy_29
theorem oo_X6_copy_30 {Γ : jΓ} {Q : jPost} (E : E_X6_copy Γ Q) : jSA Γ Q 30 (o_astore 7) 2 := so_astore E.2.2.1 (by rw [E.1]; decide) dX6_copy_30
theorem oo_X6_copy_32 {Γ : jΓ} {Q : jPost} (E : E_X6_copy Γ Q) : jSA Γ Q 32 (o_aload 6) 2 := so_aload E.2.2.1 dX6_copy_32
theorem oo_X6_copy_34 {Γ : jΓ} {Q : jPost} (E : E_X6_copy Γ Q) : jSA Γ Q 34 (o_callV 1 5 T_X5_isNothing) 3 := so_callV E.2.2.1 (ci := 5) (by rw [E.2.1]; rfl) gX6_copy_X5_isNothing (by decide +kernel) rfl (by rw [E.2.1]; exact m_X5_isNothing _) (by decide) (by decide) dX6_copy_34
theorem oo_X6_copy_37 {Γ : jΓ} {Q : jPost} (E : E_X6_copy Γ Q) : jSA Γ Q 37 (o_ifne 48) 3 := so_ifne E.2.2.1 (by decide) dX6_copy_37
theorem oo_X6_copy_40 {Γ : jΓ} {Q : jPost} (E : E_X6_copy Γ Q) : jSA Γ Q 40 (o_aload 7) 2 := so_aload E.2.2.1 dX6_copy_40
theorem oo_X6_copy_42 {Γ : jΓ} {Q : jPost} (E : E_X6_copy Γ Q) : jSA Γ Q 42 (o_callV 1 5 T_X5_isNothing) 3 := so_callV E.2.2.1 (ci := 5) (by rw [E.2.1]; rfl) gX6_copy_X5_isNothing (by decide +kernel) rfl (by rw [E.2.1]; exact m_X5_isNothing _) (by decide) (by decide) dX6_copy_42
theorem oo_X6_copy_45 {Γ : jΓ} {Q : jPost} (E : E_X6_copy Γ Q) : jSA Γ Q 45 (o_ifeq 51) 3 := so_ifeq E.2.2.1 (by decide) dX6_copy_45
theorem oo_X6_copy_48 {Γ : jΓ} {Q : jPost} (E : E_X6_copy Γ Q) : jSA Γ Q 48 (o_ic (-11)) 2 := so_bipush E.2.2.1 rfl dX6_copy_48
theorem oo_X6_copy_50 {Γ : jΓ} {Q : jPost} (E : E_X6_copy Γ Q) : jSA Γ Q 50 (o_ireti) 1 := so_ireti E.2.2.1 E.2.2.2 dX6_copy_50
theorem oo_X6_copy_51 {Γ : jΓ} {Q : jPost} (E : E_X6_copy Γ Q) : jSA Γ Q 51 (o_aload 6) 2 := so_aload E.2.2.1 dX6_copy_51
theorem oo_X6_copy_53 {Γ : jΓ} {Q : jPost} (E : E_X6_copy Γ Q) : jSA Γ Q 53 (o_getf 5 0) 3 := so_getf (ci := 5) E.2.2.1 wi_X6_copy_X5 (by rw [E.2.1]; rfl) 0 (by decide) wl_X6_copy_245 dX6_copy_53
theorem oo_X6_copy_56 {Γ : jΓ} {Q : jPost} (E : E_X6_copy Γ Q) : jSA Γ Q 56 (o_aload 7) 2 := so_aload E.2.2.1 dX6_copy_56
theorem oo_X6_copy_58 {Γ : jΓ} {Q : jPost} (E : E_X6_copy Γ Q) : jSA Γ Q 58 (o_getf 5 0) 3 := so_getf (ci := 5) E.2.2.1 wi_X6_copy_X5 (by rw [E.2.1]; rfl) 0 (by decide) wl_X6_copy_245 dX6_copy_58
theorem oo_X6_copy_61 {Γ : jΓ} {Q : jPost} (E : E_X6_copy Γ Q) : jSA Γ Q 61 (o_iceq 67) 3 := so_iceq E.2.2.1 (by decide) dX6_copy_61
theorem oo_X6_copy_64 {Γ : jΓ} {Q : jPost} (E : E_X6_copy Γ Q) : jSA Γ Q 64 (o_ic (-12)) 2 := so_bipush E.2.2.1 rfl dX6_copy_64
theorem oo_X6_copy_66 {Γ : jΓ} {Q : jPost} (E : E_X6_copy Γ Q) : jSA Γ Q 66 (o_ireti) 1 := so_ireti E.2.2.1 E.2.2.2 dX6_copy_66
theorem oo_X6_copy_67 {Γ : jΓ} {Q : jPost} (E : E_X6_copy Γ Q) : jSA Γ Q 67 (o_aload 6) 2 := so_aload E.2.2.1 dX6_copy_67
theorem oo_X6_copy_69 {Γ : jΓ} {Q : jPost} (E : E_X6_copy Γ Q) : jSA Γ Q 69 (o_iload 2) 1 := so_iload_n E.2.2.1 rfl dX6_copy_69
theorem oo_X6_copy_70 {Γ : jΓ} {Q : jPost} (E : E_X6_copy Γ Q) : jSA Γ Q 70 (o_iload 5) 2 := so_iload E.2.2.1 dX6_copy_70
theorem oo_X6_copy_72 {Γ : jΓ} {Q : jPost} (E : E_X6_copy Γ Q) : jSA Γ Q 72 (o_callV 3 5 T_X5_hasItems) 3 := so_callV E.2.2.1 (ci := 5) (by rw [E.2.1]; rfl) gX6_copy_X5_hasItems (by decide +kernel) rfl (by rw [E.2.1]; exact m_X5_hasItems _) (by decide) (by decide) dX6_copy_72
theorem oo_X6_copy_75 {Γ : jΓ} {Q : jPost} (E : E_X6_copy Γ Q) : jSA Γ Q 75 (o_ifeq 90) 3 := so_ifeq E.2.2.1 (by decide) dX6_copy_75
theorem oo_X6_copy_78 {Γ : jΓ} {Q : jPost} (E : E_X6_copy Γ Q) : jSA Γ Q 78 (o_aload 7) 2 := so_aload E.2.2.1 dX6_copy_78
theorem oo_X6_copy_80 {Γ : jΓ} {Q : jPost} (E : E_X6_copy Γ Q) : jSA Γ Q 80 (o_iload 4) 2 := so_iload E.2.2.1 dX6_copy_80
theorem oo_X6_copy_82 {Γ : jΓ} {Q : jPost} (E : E_X6_copy Γ Q) : jSA Γ Q 82 (o_iload 5) 2 := so_iload E.2.2.1 dX6_copy_82
theorem oo_X6_copy_84 {Γ : jΓ} {Q : jPost} (E : E_X6_copy Γ Q) : jSA Γ Q 84 (o_callV 3 5 T_X5_hasItems) 3 := so_callV E.2.2.1 (ci := 5) (by rw [E.2.1]; rfl) gX6_copy_X5_hasItems (by decide +kernel) rfl (by rw [E.2.1]; exact m_X5_hasItems _) (by decide) (by decide) dX6_copy_84
theorem oo_X6_copy_87 {Γ : jΓ} {Q : jPost} (E : E_X6_copy Γ Q) : jSA Γ Q 87 (o_ifne 93) 3 := so_ifne E.2.2.1 (by decide) dX6_copy_87
theorem oo_X6_copy_90 {Γ : jΓ} {Q : jPost} (E : E_X6_copy Γ Q) : jSA Γ Q 90 (o_ic (-13)) 2 := so_bipush E.2.2.1 rfl dX6_copy_90
theorem oo_X6_copy_92 {Γ : jΓ} {Q : jPost} (E : E_X6_copy Γ Q) : jSA Γ Q 92 (o_ireti) 1 := so_ireti E.2.2.1 E.2.2.2 dX6_copy_92
theorem oo_X6_copy_93 {Γ : jΓ} {Q : jPost} (E : E_X6_copy Γ Q) : jSA Γ Q 93 (o_aload 6) 2 := so_aload E.2.2.1 dX6_copy_93
theorem oo_X6_copy_95 {Γ : jΓ} {Q : jPost} (E : E_X6_copy Γ Q) : jSA Γ Q 95 (o_getf 5 2) 3 := so_getf (ci := 5) E.2.2.1 wi_X6_copy_X5 (by rw [E.2.1]; rfl) 2 (by decide) wl_X6_copy_230 dX6_copy_95
theorem oo_X6_copy_98 {Γ : jΓ} {Q : jPost} (E : E_X6_copy Γ Q) : jSA Γ Q 98 (o_iload 2) 1 := so_iload_n E.2.2.1 rfl dX6_copy_98
theorem oo_X6_copy_99 {Γ : jΓ} {Q : jPost} (E : E_X6_copy Γ Q) : jSA Γ Q 99 (o_aload 7) 2 := so_aload E.2.2.1 dX6_copy_99
theorem oo_X6_copy_101 {Γ : jΓ} {Q : jPost} (E : E_X6_copy Γ Q) : jSA Γ Q 101 (o_getf 5 2) 3 := so_getf (ci := 5) E.2.2.1 wi_X6_copy_X5 (by rw [E.2.1]; rfl) 2 (by decide) wl_X6_copy_230 dX6_copy_101
theorem oo_X6_copy_104 {Γ : jΓ} {Q : jPost} (E : E_X6_copy Γ Q) : jSA Γ Q 104 (o_iload 4) 2 := so_iload E.2.2.1 dX6_copy_104
theorem oo_X6_copy_106 {Γ : jΓ} {Q : jPost} (E : E_X6_copy Γ Q) : jSA Γ Q 106 (o_iload 5) 2 := so_iload E.2.2.1 dX6_copy_106
theorem oo_X6_copy_108 {Γ : jΓ} {Q : jPost} (E : E_X6_copy Γ Q) : jSA Γ Q 108 (o_cpy) 3 := so_cpy E.2.2.1 (by decide +kernel) (by decide +kernel) (by decide +kernel) (by decide +kernel) (by decide) (by decide +kernel) dX6_copy_108
theorem oo_X6_copy_111 {Γ : jΓ} {Q : jPost} (E : E_X6_copy Γ Q) : jSA Γ Q 111 (o_iload 5) 2 := so_iload E.2.2.1 dX6_copy_111
theorem oo_X6_copy_113 {Γ : jΓ} {Q : jPost} (E : E_X6_copy Γ Q) : jSA Γ Q 113 (o_ireti) 1 := so_ireti E.2.2.1 E.2.2.2 dX6_copy_113
theorem ok_X6_copy_0 {Γ : jΓ} {Q : jPost} (E : E_X6_copy Γ Q) : jSS Γ Q 0 sg_X6_copy_0 := ⟨oo_X6_copy_0 E, oo_X6_copy_1 E, oo_X6_copy_4 E, oo_X6_copy_7 E, oo_X6_copy_8 E, oo_X6_copy_11 E, oo_X6_copy_14 E, oo_X6_copy_15 E, trivial⟩
theorem ok_X6_copy_14 {Γ : jΓ} {Q : jPost} (E : E_X6_copy Γ Q) : jSS Γ Q 14 sg_X6_copy_14 := ⟨oo_X6_copy_14 E, oo_X6_copy_15 E, trivial⟩
theorem ok_X6_copy_16 {Γ : jΓ} {Q : jPost} (E : E_X6_copy Γ Q) : jSS Γ Q 16 sg_X6_copy_16 := ⟨oo_X6_copy_16 E, oo_X6_copy_17 E, oo_X6_copy_20 E, oo_X6_copy_21 E, oo_X6_copy_22 E, oo_X6_copy_24 E, oo_X6_copy_25 E, oo_X6_copy_28 E, oo_X6_copy_29 E, oo_X6_copy_30 E, oo_X6_copy_32 E, oo_X6_copy_34 E, oo_X6_copy_37 E, oo_X6_copy_40 E, oo_X6_copy_42 E, oo_X6_copy_45 E, oo_X6_copy_48 E, oo_X6_copy_50 E, trivial⟩
theorem ok_X6_copy_48 {Γ : jΓ} {Q : jPost} (E : E_X6_copy Γ Q) : jSS Γ Q 48 sg_X6_copy_48 := ⟨oo_X6_copy_48 E, oo_X6_copy_50 E, trivial⟩
theorem ok_X6_copy_51 {Γ : jΓ} {Q : jPost} (E : E_X6_copy Γ Q) : jSS Γ Q 51 sg_X6_copy_51 := ⟨oo_X6_copy_51 E, oo_X6_copy_53 E, oo_X6_copy_56 E, oo_X6_copy_58 E, oo_X6_copy_61 E, oo_X6_copy_64 E, oo_X6_copy_66 E, trivial⟩
theorem ok_X6_copy_67 {Γ : jΓ} {Q : jPost} (E : E_X6_copy Γ Q) : jSS Γ Q 67 sg_X6_copy_67 := ⟨oo_X6_copy_67 E, oo_X6_copy_69 E, oo_X6_copy_70 E, oo_X6_copy_72 E, oo_X6_copy_75 E, oo_X6_copy_78 E, oo_X6_copy_80 E, oo_X6_copy_82 E, oo_X6_copy_84 E, oo_X6_copy_87 E, oo_X6_copy_90 E, oo_X6_copy_92 E, trivial⟩
theorem ok_X6_copy_90 {Γ : jΓ} {Q : jPost} (E : E_X6_copy Γ Q) : jSS Γ Q 90 sg_X6_copy_90 := ⟨oo_X6_copy_90 E, oo_X6_copy_92 E, trivial⟩
theorem ok_X6_copy_93 {Γ : jΓ} {Q : jPost} (E : E_X6_copy Γ Q) : jSS Γ Q 93 sg_X6_copy_93 := ⟨oo_X6_copy_93 E, oo_X6_copy_95 E, oo_X6_copy_98 E, oo_X6_copy_99 E, oo_X6_copy_101 E, oo_X6_copy_104 E, oo_X6_copy_106 E, oo_X6_copy_108 E, oo_X6_copy_111 E, oo_X6_copy_113 E, trivial⟩
theorem okc_X6_copy {Γ : jΓ} {Q : jPost} (E : E_X6_copy Γ Q) (t : Nat) : jSS Γ Q t (cd_X6_copy t) := by
  unfold cd_X6_copy
  split
  · exact ok_X6_copy_14 E
  · exact ok_X6_copy_16 E
  · exact ok_X6_copy_48 E
  · exact ok_X6_copy_51 E
  · exact ok_X6_copy_67 E
  · exact ok_X6_copy_90 E
  · exact ok_X6_copy_93 E
  · trivial
theorem m_X6_copy_of (l : Launch) (hv : ∀ (G : jGt) (Q : jPost) (vs : List Value) (K : List jK) (h : jM), jHd cd_X6_copy G Q sg_X6_copy_0 0 → T_X6_copy vs K h Q → (lg_sl vs).length ≤ 8 ∧ G 0 (jinit vs 8) [] K h 0 0) : jHolds vwCl l yX6_copy wsX6_copy 2 42 0 0 T_X6_copy := by
  refine jMet (cc := cX6_copy) (maxL := 8) (rt := (some .int)) (by decide +kernel) rfl (fun Γ Q vs K h hl hn hcl C hR hT => hv (jG Γ) Q vs K h ?_ hT)
  · exact fun n L st K h ce sl => jwp_ok (okc_X6_copy ⟨hn, hcl, C, hR⟩) n sg_X6_copy_0 0 (ok_X6_copy_0 ⟨hn, hcl, C, hR⟩) L st K h ce sl
set_option maxHeartbeats 4000000 in
set_option maxRecDepth 100000 in
theorem v_X6_copy {G : jGt} {Q : jPost} {K : List jK} {h : jM} {s : Int32} {i : Int32} {t : Int32} {j : Int32} {n : Int32} (hT : jX K ∧ (¬ ((0 ≤ s ∧ s ≤ 3) ∧ (0 ≤ t ∧ t ≤ 3)) → Q (some (.int (-1))) K h) ∧ ((0 ≤ s ∧ s ≤ 3) ∧ (0 ≤ t ∧ t ≤ 3) → (0 ≤ (h (29 + 2 * s.toNatClampNeg) 1).toInt ∧ (h (29 + 2 * s.toNatClampNeg) 1).toInt ≤ 60) ∧ (0 ≤ (h (29 + 2 * t.toNatClampNeg) 1).toInt ∧ (h (29 + 2 * t.toNatClampNeg) 1).toInt ≤ 60) ∧ ((h (29 + 2 * s.toNatClampNeg) 0 = -1 ∨ h (29 + 2 * t.toNatClampNeg) 0 = -1) → Q (some (.int (-11))) K h) ∧ (¬ (h (29 + 2 * s.toNatClampNeg) 0 = -1 ∨ h (29 + 2 * t.toNatClampNeg) 0 = -1) → (¬ h (29 + 2 * s.toNatClampNeg) 0 = h (29 + 2 * t.toNatClampNeg) 0 → Q (some (.int (-12))) K h) ∧ (h (29 + 2 * s.toNatClampNeg) 0 = h (29 + 2 * t.toNatClampNeg) 0 → (¬ ((0 ≤ i ∧ 0 ≤ n ∧ i ≤ h (29 + 2 * s.toNatClampNeg) 1 - n) ∧ (0 ≤ j ∧ 0 ≤ n ∧ j ≤ h (29 + 2 * t.toNatClampNeg) 1 - n)) → Q (some (.int (-13))) K h) ∧ ((0 ≤ i ∧ 0 ≤ n ∧ i ≤ h (29 + 2 * s.toNatClampNeg) 1 - n) ∧ (0 ≤ j ∧ 0 ≤ n ∧ j ≤ h (29 + 2 * t.toNatClampNeg) 1 - n) → Q (some (.int n)) K (upr h (30 + 2 * t.toNatClampNeg) (va_cpy (h (30 + 2 * s.toNatClampNeg)) (h (30 + 2 * t.toNatClampNeg)) i.toNatClampNeg j.toNatClampNeg n.toNatClampNeg))))))) (H0 : jHd cd_X6_copy G Q sg_X6_copy_0 0) : G 0 [some (.ref 0), some (.int s), some (.int i), some (.int t), some (.int j), some (.int n), none, none] [] K h 0 0 := by
  obtain ⟨hX, hT0, hT1⟩ := hT
  refine H0 120 _ _ _ _ _ _ ?_
  by_cases c1 : 0 ≤ s ∧ s ≤ 3
  · by_cases c2 : 0 ≤ t ∧ t ≤ 3
    · have hT1 := hT1 ⟨c1, c2⟩
      obtain ⟨a, ha, rfl⟩ := sh_of c1
      obtain ⟨b, hb, rfl⟩ := sh_of c2
      have a31 : a < 2147483648 := by omega
      have b31 : b < 2147483648 := by omega
      have av : vp_in (nI a) 4 := vp_in_nI ha (by decide)
      have bv : vp_in (nI b) 4 := vp_in_nI hb (by decide)
      have aS : isSh (29 + 2 * a) := ⟨a, ha, rfl⟩
      have bS : isSh (29 + 2 * b) := ⟨b, hb, rfl⟩
      rw [nI_clamp a31, nI_clamp b31] at hT1
      obtain ⟨la, lb, hT1, hT2⟩ := hT1
      by_cases c3 : h (29 + 2 * a) 0 = -1
      · have hT1 := hT1 (Or.inl c3)
        simp only [sg_X6_copy_0, sg_X6_copy_14, sg_X6_copy_16, sg_X6_copy_48, sg_X6_copy_51, sg_X6_copy_67, sg_X6_copy_90, sg_X6_copy_93, cd_X6_copy, jwp, o_ic, o_lc, o_iload, o_lload, o_aload, o_istore, o_lstore, o_astore, o_iinc, o_pop, o_dup, o_dup2, o_iadd, o_isub, o_imul, o_iand, o_ior, o_ishl, o_ladd, o_lmul, o_land, o_lor, o_idiv, o_irem, o_ineg, o_i2l, o_l2i, o_i2b, o_i2s, o_lushr, o_lshr, o_lshl, o_lcmp, o_ifeq, o_ifne, o_iflt, o_ifge, o_ifgt, o_ifle, o_iceq, o_icne, o_iclt, o_icge, o_icgt, o_icle, o_goto, o_tsw, jsw, o_lsw, jlk, o_getf, o_putf, o_putz, o_iald, o_zald, o_iast, o_zast, o_aald, o_alen, o_gets, o_zld, o_zlen, o_cpy, o_call, o_callV, o_ireti, o_iretz, o_lret, o_vret, jg, js, jkp, jkill, jsp, jcs, jfw, jov, Value.category, Option.toList_some, Option.toList_none, List.nil_append, List.cons_append, List.append_nil, Nat.reduceAdd, true_and, and_true, jb0, jb01, jb1, jem, true_or, or_true, Classical.not_not, forall_const, List.length_cons, List.length_nil, Nat.reduceLeDiff, Nat.zero_le, Nat.reduceLT, and_self, not_true_eq_false, not_false_eq_true, false_imp_iff, true_imp_iff, implies_true, and_false, false_and, or_false, false_or, hX, kx_0_0 hX, kx_0_1 hX, kx_0_2 hX, kx_0_3 hX, kx_0_4 hX, kx_0_5 hX, kx_0_6 hX, kx_0_7 hX, kx_0_8 hX, kxo_0 hX, kx_1_0 hX, kx_1_1 hX, kx_1_2 hX, kx_1_3 hX, kxo_1 hX, kx_4_0 hX, kx_4_1 hX, kx_4_2 hX, kxo_4 hX, kx_19_0 hX, kx_19_1 hX, kx_19_2 hX, kx_19_3 hX, kx_19_4 hX, kxo_19 hX, kx_24_0 hX, kx_24_1 hX, kx_24_2 hX, kx_24_3 hX, kx_24_4 hX, kx_24_5 hX, kx_24_6 hX, kxo_24 hX, kxa_2 hX, kxa_3 hX, kxa_6 hX, kxa_7 hX, kxa_8 hX, kxa_9 hX, kxa_10 hX, kxa_18 hX, kxa_20 hX, kxa_21 hX, kxa_22 hX, kxa_23 hX, kxa_26 hX, kxa_27 hX, kxr_5 hX, kxr_11 hX, kxr_28 hX, T_X6_isSheet, T_X5_isNothing, T_X5_hasItems, c1, c2, c3, nI_clamp a31, nI_clamp b31, kx_shs ha, kx_shs hb, av, bv, aS, bS, kxs_0 hX ha, kxs_1 hX ha, kxs_2 hX ha, kxs_o hX ha, kxs_a hX ha, kxs_0 hX hb, kxs_1 hX hb, kxs_2 hX hb, kxs_o hX hb, kxs_a hX hb]
        exact hT1
      · by_cases c4 : h (29 + 2 * b) 0 = -1
        · have hT1 := hT1 (Or.inr c4)
          simp only [sg_X6_copy_0, sg_X6_copy_14, sg_X6_copy_16, sg_X6_copy_48, sg_X6_copy_51, sg_X6_copy_67, sg_X6_copy_90, sg_X6_copy_93, cd_X6_copy, jwp, o_ic, o_lc, o_iload, o_lload, o_aload, o_istore, o_lstore, o_astore, o_iinc, o_pop, o_dup, o_dup2, o_iadd, o_isub, o_imul, o_iand, o_ior, o_ishl, o_ladd, o_lmul, o_land, o_lor, o_idiv, o_irem, o_ineg, o_i2l, o_l2i, o_i2b, o_i2s, o_lushr, o_lshr, o_lshl, o_lcmp, o_ifeq, o_ifne, o_iflt, o_ifge, o_ifgt, o_ifle, o_iceq, o_icne, o_iclt, o_icge, o_icgt, o_icle, o_goto, o_tsw, jsw, o_lsw, jlk, o_getf, o_putf, o_putz, o_iald, o_zald, o_iast, o_zast, o_aald, o_alen, o_gets, o_zld, o_zlen, o_cpy, o_call, o_callV, o_ireti, o_iretz, o_lret, o_vret, jg, js, jkp, jkill, jsp, jcs, jfw, jov, Value.category, Option.toList_some, Option.toList_none, List.nil_append, List.cons_append, List.append_nil, Nat.reduceAdd, true_and, and_true, jb0, jb01, jb1, jem, true_or, or_true, Classical.not_not, forall_const, List.length_cons, List.length_nil, Nat.reduceLeDiff, Nat.zero_le, Nat.reduceLT, and_self, not_true_eq_false, not_false_eq_true, false_imp_iff, true_imp_iff, implies_true, and_false, false_and, or_false, false_or, hX, kx_0_0 hX, kx_0_1 hX, kx_0_2 hX, kx_0_3 hX, kx_0_4 hX, kx_0_5 hX, kx_0_6 hX, kx_0_7 hX, kx_0_8 hX, kxo_0 hX, kx_1_0 hX, kx_1_1 hX, kx_1_2 hX, kx_1_3 hX, kxo_1 hX, kx_4_0 hX, kx_4_1 hX, kx_4_2 hX, kxo_4 hX, kx_19_0 hX, kx_19_1 hX, kx_19_2 hX, kx_19_3 hX, kx_19_4 hX, kxo_19 hX, kx_24_0 hX, kx_24_1 hX, kx_24_2 hX, kx_24_3 hX, kx_24_4 hX, kx_24_5 hX, kx_24_6 hX, kxo_24 hX, kxa_2 hX, kxa_3 hX, kxa_6 hX, kxa_7 hX, kxa_8 hX, kxa_9 hX, kxa_10 hX, kxa_18 hX, kxa_20 hX, kxa_21 hX, kxa_22 hX, kxa_23 hX, kxa_26 hX, kxa_27 hX, kxr_5 hX, kxr_11 hX, kxr_28 hX, T_X6_isSheet, T_X5_isNothing, T_X5_hasItems, c1, c2, c3, c4, nI_clamp a31, nI_clamp b31, kx_shs ha, kx_shs hb, av, bv, aS, bS, kxs_0 hX ha, kxs_1 hX ha, kxs_2 hX ha, kxs_o hX ha, kxs_a hX ha, kxs_0 hX hb, kxs_1 hX hb, kxs_2 hX hb, kxs_o hX hb, kxs_a hX hb]
          exact hT1
        · obtain ⟨hT2, hT3⟩ := hT2 (fun z => z.elim c3 c4)
          by_cases c5 : h (29 + 2 * a) 0 = h (29 + 2 * b) 0
          · obtain ⟨hT3, hT4⟩ := hT3 c5
            by_cases c6 : 0 ≤ i ∧ 0 ≤ n ∧ i ≤ h (29 + 2 * a) 1 - n
            · by_cases c7 : 0 ≤ j ∧ 0 ≤ n ∧ j ≤ h (29 + 2 * b) 1 - n
              · have hT4 := hT4 ⟨c6, c7⟩
                have f1 := items_in ⟨c6.1, c6.2.2⟩ c6.2.1 la
                have f2 := items_in ⟨c7.1, c7.2.2⟩ c7.2.1 lb
                have g1 := clamp_int f1.1
                have g2 := clamp_int f1.2.1
                have g3 := clamp_int f2.1
                have e1 : i.toNatClampNeg + n.toNatClampNeg ≤ 60 := by omega
                have e2 : j.toNatClampNeg + n.toNatClampNeg ≤ 60 := by omega
                have n1 : ¬ i < 0 := Int32.not_lt.mpr c6.1
                have n2 : ¬ j < 0 := Int32.not_lt.mpr c7.1
                have n3 : ¬ n < 0 := Int32.not_lt.mpr c6.2.1
                have c3' : ¬ h (29 + 2 * b) 0 = -1 := c4
                simp only [sg_X6_copy_0, sg_X6_copy_14, sg_X6_copy_16, sg_X6_copy_48, sg_X6_copy_51, sg_X6_copy_67, sg_X6_copy_90, sg_X6_copy_93, cd_X6_copy, jwp, o_ic, o_lc, o_iload, o_lload, o_aload, o_istore, o_lstore, o_astore, o_iinc, o_pop, o_dup, o_dup2, o_iadd, o_isub, o_imul, o_iand, o_ior, o_ishl, o_ladd, o_lmul, o_land, o_lor, o_idiv, o_irem, o_ineg, o_i2l, o_l2i, o_i2b, o_i2s, o_lushr, o_lshr, o_lshl, o_lcmp, o_ifeq, o_ifne, o_iflt, o_ifge, o_ifgt, o_ifle, o_iceq, o_icne, o_iclt, o_icge, o_icgt, o_icle, o_goto, o_tsw, jsw, o_lsw, jlk, o_getf, o_putf, o_putz, o_iald, o_zald, o_iast, o_zast, o_aald, o_alen, o_gets, o_zld, o_zlen, o_cpy, o_call, o_callV, o_ireti, o_iretz, o_lret, o_vret, jg, js, jkp, jkill, jsp, jcs, jfw, jov, Value.category, Option.toList_some, Option.toList_none, List.nil_append, List.cons_append, List.append_nil, Nat.reduceAdd, true_and, and_true, jb0, jb01, jb1, jem, true_or, or_true, Classical.not_not, forall_const, List.length_cons, List.length_nil, Nat.reduceLeDiff, Nat.zero_le, Nat.reduceLT, and_self, not_true_eq_false, not_false_eq_true, false_imp_iff, true_imp_iff, implies_true, and_false, false_and, or_false, false_or, hX, kx_0_0 hX, kx_0_1 hX, kx_0_2 hX, kx_0_3 hX, kx_0_4 hX, kx_0_5 hX, kx_0_6 hX, kx_0_7 hX, kx_0_8 hX, kxo_0 hX, kx_1_0 hX, kx_1_1 hX, kx_1_2 hX, kx_1_3 hX, kxo_1 hX, kx_4_0 hX, kx_4_1 hX, kx_4_2 hX, kxo_4 hX, kx_19_0 hX, kx_19_1 hX, kx_19_2 hX, kx_19_3 hX, kx_19_4 hX, kxo_19 hX, kx_24_0 hX, kx_24_1 hX, kx_24_2 hX, kx_24_3 hX, kx_24_4 hX, kx_24_5 hX, kx_24_6 hX, kxo_24 hX, kxa_2 hX, kxa_3 hX, kxa_6 hX, kxa_7 hX, kxa_8 hX, kxa_9 hX, kxa_10 hX, kxa_18 hX, kxa_20 hX, kxa_21 hX, kxa_22 hX, kxa_23 hX, kxa_26 hX, kxa_27 hX, kxr_5 hX, kxr_11 hX, kxr_28 hX, T_X6_isSheet, T_X5_isNothing, T_X5_hasItems, c1, c2, c4, c5, c6, c7, e1, e2, n1, n2, n3, List.map_nil, List.sum_nil, nI_clamp a31, nI_clamp b31, kx_shs ha, kx_shs hb, av, bv, aS, bS, kxs_0 hX ha, kxs_1 hX ha, kxs_2 hX ha, kxs_o hX ha, kxs_a hX ha, kxs_0 hX hb, kxs_1 hX hb, kxs_2 hX hb, kxs_o hX hb, kxs_a hX hb]
                exact hT4
              · have hT3 := hT3 (fun z => c7 z.2)
                simp only [sg_X6_copy_0, sg_X6_copy_14, sg_X6_copy_16, sg_X6_copy_48, sg_X6_copy_51, sg_X6_copy_67, sg_X6_copy_90, sg_X6_copy_93, cd_X6_copy, jwp, o_ic, o_lc, o_iload, o_lload, o_aload, o_istore, o_lstore, o_astore, o_iinc, o_pop, o_dup, o_dup2, o_iadd, o_isub, o_imul, o_iand, o_ior, o_ishl, o_ladd, o_lmul, o_land, o_lor, o_idiv, o_irem, o_ineg, o_i2l, o_l2i, o_i2b, o_i2s, o_lushr, o_lshr, o_lshl, o_lcmp, o_ifeq, o_ifne, o_iflt, o_ifge, o_ifgt, o_ifle, o_iceq, o_icne, o_iclt, o_icge, o_icgt, o_icle, o_goto, o_tsw, jsw, o_lsw, jlk, o_getf, o_putf, o_putz, o_iald, o_zald, o_iast, o_zast, o_aald, o_alen, o_gets, o_zld, o_zlen, o_cpy, o_call, o_callV, o_ireti, o_iretz, o_lret, o_vret, jg, js, jkp, jkill, jsp, jcs, jfw, jov, Value.category, Option.toList_some, Option.toList_none, List.nil_append, List.cons_append, List.append_nil, Nat.reduceAdd, true_and, and_true, jb0, jb01, jb1, jem, true_or, or_true, Classical.not_not, forall_const, List.length_cons, List.length_nil, Nat.reduceLeDiff, Nat.zero_le, Nat.reduceLT, and_self, not_true_eq_false, not_false_eq_true, false_imp_iff, true_imp_iff, implies_true, and_false, false_and, or_false, false_or, hX, kx_0_0 hX, kx_0_1 hX, kx_0_2 hX, kx_0_3 hX, kx_0_4 hX, kx_0_5 hX, kx_0_6 hX, kx_0_7 hX, kx_0_8 hX, kxo_0 hX, kx_1_0 hX, kx_1_1 hX, kx_1_2 hX, kx_1_3 hX, kxo_1 hX, kx_4_0 hX, kx_4_1 hX, kx_4_2 hX, kxo_4 hX, kx_19_0 hX, kx_19_1 hX, kx_19_2 hX, kx_19_3 hX, kx_19_4 hX, kxo_19 hX, kx_24_0 hX, kx_24_1 hX, kx_24_2 hX, kx_24_3 hX, kx_24_4 hX, kx_24_5 hX, kx_24_6 hX, kxo_24 hX, kxa_2 hX, kxa_3 hX, kxa_6 hX, kxa_7 hX, kxa_8 hX, kxa_9 hX, kxa_10 hX, kxa_18 hX, kxa_20 hX, kxa_21 hX, kxa_22 hX, kxa_23 hX, kxa_26 hX, kxa_27 hX, kxr_5 hX, kxr_11 hX, kxr_28 hX, T_X6_isSheet, T_X5_isNothing, T_X5_hasItems, c1, c2, c4, c5, c6, c7, nI_clamp a31, nI_clamp b31, kx_shs ha, kx_shs hb, av, bv, aS, bS, kxs_0 hX ha, kxs_1 hX ha, kxs_2 hX ha, kxs_o hX ha, kxs_a hX ha, kxs_0 hX hb, kxs_1 hX hb, kxs_2 hX hb, kxs_o hX hb, kxs_a hX hb]
                exact ⟨fun z => absurd ⟨z.1, c6.2.1, z.2⟩ c7, fun _ => hT3⟩
            · have hT3 := hT3 (fun z => c6 z.1)
              simp only [sg_X6_copy_0, sg_X6_copy_14, sg_X6_copy_16, sg_X6_copy_48, sg_X6_copy_51, sg_X6_copy_67, sg_X6_copy_90, sg_X6_copy_93, cd_X6_copy, jwp, o_ic, o_lc, o_iload, o_lload, o_aload, o_istore, o_lstore, o_astore, o_iinc, o_pop, o_dup, o_dup2, o_iadd, o_isub, o_imul, o_iand, o_ior, o_ishl, o_ladd, o_lmul, o_land, o_lor, o_idiv, o_irem, o_ineg, o_i2l, o_l2i, o_i2b, o_i2s, o_lushr, o_lshr, o_lshl, o_lcmp, o_ifeq, o_ifne, o_iflt, o_ifge, o_ifgt, o_ifle, o_iceq, o_icne, o_iclt, o_icge, o_icgt, o_icle, o_goto, o_tsw, jsw, o_lsw, jlk, o_getf, o_putf, o_putz, o_iald, o_zald, o_iast, o_zast, o_aald, o_alen, o_gets, o_zld, o_zlen, o_cpy, o_call, o_callV, o_ireti, o_iretz, o_lret, o_vret, jg, js, jkp, jkill, jsp, jcs, jfw, jov, Value.category, Option.toList_some, Option.toList_none, List.nil_append, List.cons_append, List.append_nil, Nat.reduceAdd, true_and, and_true, jb0, jb01, jb1, jem, true_or, or_true, Classical.not_not, forall_const, List.length_cons, List.length_nil, Nat.reduceLeDiff, Nat.zero_le, Nat.reduceLT, and_self, not_true_eq_false, not_false_eq_true, false_imp_iff, true_imp_iff, implies_true, and_false, false_and, or_false, false_or, hX, kx_0_0 hX, kx_0_1 hX, kx_0_2 hX, kx_0_3 hX, kx_0_4 hX, kx_0_5 hX, kx_0_6 hX, kx_0_7 hX, kx_0_8 hX, kxo_0 hX, kx_1_0 hX, kx_1_1 hX, kx_1_2 hX, kx_1_3 hX, kxo_1 hX, kx_4_0 hX, kx_4_1 hX, kx_4_2 hX, kxo_4 hX, kx_19_0 hX, kx_19_1 hX, kx_19_2 hX, kx_19_3 hX, kx_19_4 hX, kxo_19 hX, kx_24_0 hX, kx_24_1 hX, kx_24_2 hX, kx_24_3 hX, kx_24_4 hX, kx_24_5 hX, kx_24_6 hX, kxo_24 hX, kxa_2 hX, kxa_3 hX, kxa_6 hX, kxa_7 hX, kxa_8 hX, kxa_9 hX, kxa_10 hX, kxa_18 hX, kxa_20 hX, kxa_21 hX, kxa_22 hX, kxa_23 hX, kxa_26 hX, kxa_27 hX, kxr_5 hX, kxr_11 hX, kxr_28 hX, T_X6_isSheet, T_X5_isNothing, T_X5_hasItems, c1, c2, c4, c5, c6, nI_clamp a31, nI_clamp b31, kx_shs ha, kx_shs hb, av, bv, aS, bS, kxs_0 hX ha, kxs_1 hX ha, kxs_2 hX ha, kxs_o hX ha, kxs_a hX ha, kxs_0 hX hb, kxs_1 hX hb, kxs_2 hX hb, kxs_o hX hb, kxs_a hX hb]
              exact hT3
          · have hT2 := hT2 c5
            simp only [sg_X6_copy_0, sg_X6_copy_14, sg_X6_copy_16, sg_X6_copy_48, sg_X6_copy_51, sg_X6_copy_67, sg_X6_copy_90, sg_X6_copy_93, cd_X6_copy, jwp, o_ic, o_lc, o_iload, o_lload, o_aload, o_istore, o_lstore, o_astore, o_iinc, o_pop, o_dup, o_dup2, o_iadd, o_isub, o_imul, o_iand, o_ior, o_ishl, o_ladd, o_lmul, o_land, o_lor, o_idiv, o_irem, o_ineg, o_i2l, o_l2i, o_i2b, o_i2s, o_lushr, o_lshr, o_lshl, o_lcmp, o_ifeq, o_ifne, o_iflt, o_ifge, o_ifgt, o_ifle, o_iceq, o_icne, o_iclt, o_icge, o_icgt, o_icle, o_goto, o_tsw, jsw, o_lsw, jlk, o_getf, o_putf, o_putz, o_iald, o_zald, o_iast, o_zast, o_aald, o_alen, o_gets, o_zld, o_zlen, o_cpy, o_call, o_callV, o_ireti, o_iretz, o_lret, o_vret, jg, js, jkp, jkill, jsp, jcs, jfw, jov, Value.category, Option.toList_some, Option.toList_none, List.nil_append, List.cons_append, List.append_nil, Nat.reduceAdd, true_and, and_true, jb0, jb01, jb1, jem, true_or, or_true, Classical.not_not, forall_const, List.length_cons, List.length_nil, Nat.reduceLeDiff, Nat.zero_le, Nat.reduceLT, and_self, not_true_eq_false, not_false_eq_true, false_imp_iff, true_imp_iff, implies_true, and_false, false_and, or_false, false_or, hX, kx_0_0 hX, kx_0_1 hX, kx_0_2 hX, kx_0_3 hX, kx_0_4 hX, kx_0_5 hX, kx_0_6 hX, kx_0_7 hX, kx_0_8 hX, kxo_0 hX, kx_1_0 hX, kx_1_1 hX, kx_1_2 hX, kx_1_3 hX, kxo_1 hX, kx_4_0 hX, kx_4_1 hX, kx_4_2 hX, kxo_4 hX, kx_19_0 hX, kx_19_1 hX, kx_19_2 hX, kx_19_3 hX, kx_19_4 hX, kxo_19 hX, kx_24_0 hX, kx_24_1 hX, kx_24_2 hX, kx_24_3 hX, kx_24_4 hX, kx_24_5 hX, kx_24_6 hX, kxo_24 hX, kxa_2 hX, kxa_3 hX, kxa_6 hX, kxa_7 hX, kxa_8 hX, kxa_9 hX, kxa_10 hX, kxa_18 hX, kxa_20 hX, kxa_21 hX, kxa_22 hX, kxa_23 hX, kxa_26 hX, kxa_27 hX, kxr_5 hX, kxr_11 hX, kxr_28 hX, T_X6_isSheet, T_X5_isNothing, T_X5_hasItems, c1, c2, c3, c4, c5, nI_clamp a31, nI_clamp b31, kx_shs ha, kx_shs hb, av, bv, aS, bS, kxs_0 hX ha, kxs_1 hX ha, kxs_2 hX ha, kxs_o hX ha, kxs_a hX ha, kxs_0 hX hb, kxs_1 hX hb, kxs_2 hX hb, kxs_o hX hb, kxs_a hX hb]
            exact hT2
    · have hT0 := hT0 (fun z => c2 z.2)
      simp only [sg_X6_copy_0, sg_X6_copy_14, sg_X6_copy_16, sg_X6_copy_48, sg_X6_copy_51, sg_X6_copy_67, sg_X6_copy_90, sg_X6_copy_93, cd_X6_copy, jwp, o_ic, o_lc, o_iload, o_lload, o_aload, o_istore, o_lstore, o_astore, o_iinc, o_pop, o_dup, o_dup2, o_iadd, o_isub, o_imul, o_iand, o_ior, o_ishl, o_ladd, o_lmul, o_land, o_lor, o_idiv, o_irem, o_ineg, o_i2l, o_l2i, o_i2b, o_i2s, o_lushr, o_lshr, o_lshl, o_lcmp, o_ifeq, o_ifne, o_iflt, o_ifge, o_ifgt, o_ifle, o_iceq, o_icne, o_iclt, o_icge, o_icgt, o_icle, o_goto, o_tsw, jsw, o_lsw, jlk, o_getf, o_putf, o_putz, o_iald, o_zald, o_iast, o_zast, o_aald, o_alen, o_gets, o_zld, o_zlen, o_cpy, o_call, o_callV, o_ireti, o_iretz, o_lret, o_vret, jg, js, jkp, jkill, jsp, jcs, jfw, jov, Value.category, Option.toList_some, Option.toList_none, List.nil_append, List.cons_append, List.append_nil, Nat.reduceAdd, true_and, and_true, jb0, jb01, jb1, jem, true_or, or_true, Classical.not_not, forall_const, List.length_cons, List.length_nil, Nat.reduceLeDiff, Nat.zero_le, Nat.reduceLT, and_self, not_true_eq_false, not_false_eq_true, false_imp_iff, true_imp_iff, implies_true, and_false, false_and, or_false, false_or, hX, kx_0_0 hX, kx_0_1 hX, kx_0_2 hX, kx_0_3 hX, kx_0_4 hX, kx_0_5 hX, kx_0_6 hX, kx_0_7 hX, kx_0_8 hX, kxo_0 hX, kx_1_0 hX, kx_1_1 hX, kx_1_2 hX, kx_1_3 hX, kxo_1 hX, kx_4_0 hX, kx_4_1 hX, kx_4_2 hX, kxo_4 hX, kx_19_0 hX, kx_19_1 hX, kx_19_2 hX, kx_19_3 hX, kx_19_4 hX, kxo_19 hX, kx_24_0 hX, kx_24_1 hX, kx_24_2 hX, kx_24_3 hX, kx_24_4 hX, kx_24_5 hX, kx_24_6 hX, kxo_24 hX, kxa_2 hX, kxa_3 hX, kxa_6 hX, kxa_7 hX, kxa_8 hX, kxa_9 hX, kxa_10 hX, kxa_18 hX, kxa_20 hX, kxa_21 hX, kxa_22 hX, kxa_23 hX, kxa_26 hX, kxa_27 hX, kxr_5 hX, kxr_11 hX, kxr_28 hX, T_X6_isSheet, T_X5_isNothing, T_X5_hasItems, c1, c2]
      exact hT0
  · have hT0 := hT0 (fun z => c1 z.1)
    simp only [sg_X6_copy_0, sg_X6_copy_14, sg_X6_copy_16, sg_X6_copy_48, sg_X6_copy_51, sg_X6_copy_67, sg_X6_copy_90, sg_X6_copy_93, cd_X6_copy, jwp, o_ic, o_lc, o_iload, o_lload, o_aload, o_istore, o_lstore, o_astore, o_iinc, o_pop, o_dup, o_dup2, o_iadd, o_isub, o_imul, o_iand, o_ior, o_ishl, o_ladd, o_lmul, o_land, o_lor, o_idiv, o_irem, o_ineg, o_i2l, o_l2i, o_i2b, o_i2s, o_lushr, o_lshr, o_lshl, o_lcmp, o_ifeq, o_ifne, o_iflt, o_ifge, o_ifgt, o_ifle, o_iceq, o_icne, o_iclt, o_icge, o_icgt, o_icle, o_goto, o_tsw, jsw, o_lsw, jlk, o_getf, o_putf, o_putz, o_iald, o_zald, o_iast, o_zast, o_aald, o_alen, o_gets, o_zld, o_zlen, o_cpy, o_call, o_callV, o_ireti, o_iretz, o_lret, o_vret, jg, js, jkp, jkill, jsp, jcs, jfw, jov, Value.category, Option.toList_some, Option.toList_none, List.nil_append, List.cons_append, List.append_nil, Nat.reduceAdd, true_and, and_true, jb0, jb01, jb1, jem, true_or, or_true, Classical.not_not, forall_const, List.length_cons, List.length_nil, Nat.reduceLeDiff, Nat.zero_le, Nat.reduceLT, and_self, not_true_eq_false, not_false_eq_true, false_imp_iff, true_imp_iff, implies_true, and_false, false_and, or_false, false_or, hX, kx_0_0 hX, kx_0_1 hX, kx_0_2 hX, kx_0_3 hX, kx_0_4 hX, kx_0_5 hX, kx_0_6 hX, kx_0_7 hX, kx_0_8 hX, kxo_0 hX, kx_1_0 hX, kx_1_1 hX, kx_1_2 hX, kx_1_3 hX, kxo_1 hX, kx_4_0 hX, kx_4_1 hX, kx_4_2 hX, kxo_4 hX, kx_19_0 hX, kx_19_1 hX, kx_19_2 hX, kx_19_3 hX, kx_19_4 hX, kxo_19 hX, kx_24_0 hX, kx_24_1 hX, kx_24_2 hX, kx_24_3 hX, kx_24_4 hX, kx_24_5 hX, kx_24_6 hX, kxo_24 hX, kxa_2 hX, kxa_3 hX, kxa_6 hX, kxa_7 hX, kxa_8 hX, kxa_9 hX, kxa_10 hX, kxa_18 hX, kxa_20 hX, kxa_21 hX, kxa_22 hX, kxa_23 hX, kxa_26 hX, kxa_27 hX, kxr_5 hX, kxr_11 hX, kxr_28 hX, T_X6_isSheet, T_X5_isNothing, T_X5_hasItems, c1]
    exact hT0
theorem m_X6_copy (l : Launch) : jHolds vwCl l yX6_copy wsX6_copy 2 42 0 0 T_X6_copy := by
  refine m_X6_copy_of l (fun G Q vs K h H0 hT => ?_)
  unfold T_X6_copy at hT
  split at hT
  · obtain ⟨rfl, hT⟩ := hT
    exact ⟨Nat.le_of_ble_eq_true rfl, v_X6_copy hT H0⟩
  · exact hT.elim

/-! X6_differ -/
def T_X6_differ : jT := fun vs K h Q => match vs with
  | [.ref r0] => r0 = 0 ∧ (jX K ∧ (h 24 0 = 0 → Q (some (.int (-2))) K h) ∧ (¬ h 24 0 = 0 → Q (some (.int (nI (jcnt (fun k => ¬ h 2 k = h 26 k) 57600)))) K h))
  | _ => False
def sg_X6_differ_0 : jS := [(o_aload 0, 1), (o_getf 6 5, 3), (o_getf 2 0, 3), (o_ifne 13, 3), (o_ic (-2), 2), (o_ireti, 1)]
def sg_X6_differ_13 : jS := [(o_ic (0), 1), (o_istore 1, 1), (o_ic (0), 1), (o_istore 2, 1)]
def sg_X6_differ_17 : jS := [(o_iload 2, 1), (o_ic (57600), 2), (o_icge 53, 3), (o_aload 0, 1), (o_getf 6 0, 3), (o_getf 1 2, 3), (o_iload 2, 1), (o_iald, 1), (o_aload 0, 1), (o_getf 6 5, 3), (o_getf 2 5, 3), (o_iload 2, 1), (o_iald, 1), (o_iceq 47, 3), (o_iinc 1 (1), 3), (o_iinc 2 (1), 3), (o_goto 17, 3)]
def sg_X6_differ_47 : jS := [(o_iinc 2 (1), 3), (o_goto 17, 3)]
def sg_X6_differ_53 : jS := [(o_iload 1, 1), (o_ireti, 1)]
def cd_X6_differ : Nat → jS := fun t => match t with
  | 13 => sg_X6_differ_13
  | 47 => sg_X6_differ_47
  | 53 => sg_X6_differ_53
  | _ => []
theorem wl_X6_differ_12 : Cond.fieldLink RX6 12 (TX6 0).1 (TX6 0).2.1 (TX6 0).2.2.1 ∈ wsX6_differ := by decide +kernel
theorem wl_X6_differ_44 : Cond.fieldLink RX6 44 (TX6 5).1 (TX6 5).2.1 (TX6 5).2.2.1 ∈ wsX6_differ := by decide +kernel
theorem wl_X6_differ_111 : Cond.fieldLink RX6 111 (TX1 2).1 (TX1 2).2.1 (TX1 2).2.2.1 ∈ wsX6_differ := by decide +kernel
theorem wl_X6_differ_188 : Cond.fieldLink RX6 188 (TX2 0).1 (TX2 0).2.1 (TX2 0).2.2.1 ∈ wsX6_differ := by decide +kernel
theorem wl_X6_differ_205 : Cond.fieldLink RX6 205 (TX2 5).1 (TX2 5).2.1 (TX2 5).2.2.1 ∈ wsX6_differ := by decide +kernel
theorem wi_X6_differ_X1 : ∀ w ∈ u_ws RX1 TX1 4, w ∈ wsX6_differ := by decide +kernel
theorem wi_X6_differ_X2 : ∀ w ∈ u_ws RX2 TX2 7, w ∈ wsX6_differ := by decide +kernel
theorem wi_X6_differ_X6 : ∀ w ∈ u_ws RX6 TX6 9, w ∈ wsX6_differ := by decide +kernel
def E_X6_differ (Γ : jΓ) (Q : jPost) : Prop := Γ.2.2.2.2.2.2.2.2.2.2.1 = 3 ∧ Γ.2.2.2.2.2.2.2.2.2.2.2.1 = vwCl ∧ jC Γ cX6_differ RX6 "differ" (some .int) wsX6_differ 0 0 0 0 ∧ jR Γ Q 0 0
theorem oo_X6_differ_0 {Γ : jΓ} {Q : jPost} (E : E_X6_differ Γ Q) : jSA Γ Q 0 (o_aload 0) 1 := so_aload_n E.2.2.1 rfl dX6_differ_0
theorem oo_X6_differ_1 {Γ : jΓ} {Q : jPost} (E : E_X6_differ Γ Q) : jSA Γ Q 1 (o_getf 6 5) 3 := so_getf (ci := 6) E.2.2.1 wi_X6_differ_X6 (by rw [E.2.1]; rfl) 5 (by decide) wl_X6_differ_44 dX6_differ_1
theorem oo_X6_differ_4 {Γ : jΓ} {Q : jPost} (E : E_X6_differ Γ Q) : jSA Γ Q 4 (o_getf 2 0) 3 := so_getf (ci := 2) E.2.2.1 wi_X6_differ_X2 (by rw [E.2.1]; rfl) 0 (by decide) wl_X6_differ_188 dX6_differ_4
theorem oo_X6_differ_7 {Γ : jΓ} {Q : jPost} (E : E_X6_differ Γ Q) : jSA Γ Q 7 (o_ifne 13) 3 := so_ifne E.2.2.1 (by decide) dX6_differ_7
theorem oo_X6_differ_10 {Γ : jΓ} {Q : jPost} (E : E_X6_differ Γ Q) : jSA Γ Q 10 (o_ic (-2)) 2 := so_bipush E.2.2.1 rfl dX6_differ_10
theorem oo_X6_differ_12 {Γ : jΓ} {Q : jPost} (E : E_X6_differ Γ Q) : jSA Γ Q 12 (o_ireti) 1 := so_ireti E.2.2.1 E.2.2.2 dX6_differ_12
theorem oo_X6_differ_13 {Γ : jΓ} {Q : jPost} (E : E_X6_differ Γ Q) : jSA Γ Q 13 (o_ic (0)) 1 := so_iconst E.2.2.1 rfl dX6_differ_13
theorem oo_X6_differ_14 {Γ : jΓ} {Q : jPost} (E : E_X6_differ Γ Q) : jSA Γ Q 14 (o_istore 1) 1 := so_istore_n E.2.2.1 rfl (by rw [E.1]; decide) dX6_differ_14
theorem oo_X6_differ_15 {Γ : jΓ} {Q : jPost} (E : E_X6_differ Γ Q) : jSA Γ Q 15 (o_ic (0)) 1 := so_iconst E.2.2.1 rfl dX6_differ_15
theorem oo_X6_differ_16 {Γ : jΓ} {Q : jPost} (E : E_X6_differ Γ Q) : jSA Γ Q 16 (o_istore 2) 1 := so_istore_n E.2.2.1 rfl (by rw [E.1]; decide) dX6_differ_16
theorem oo_X6_differ_17 {Γ : jΓ} {Q : jPost} (E : E_X6_differ Γ Q) : jSA Γ Q 17 (o_iload 2) 1 := so_iload_n E.2.2.1 rfl dX6_differ_17
theorem oo_X6_differ_18 {Γ : jΓ} {Q : jPost} (E : E_X6_differ Γ Q) : jSA Γ Q 18 (o_ic (57600)) 2 := so_ldc E.2.2.1 (by decide +kernel) dX6_differ_18
theorem oo_X6_differ_20 {Γ : jΓ} {Q : jPost} (E : E_X6_differ Γ Q) : jSA Γ Q 20 (o_icge 53) 3 := so_icge E.2.2.1 (by decide) dX6_differ_20
theorem oo_X6_differ_23 {Γ : jΓ} {Q : jPost} (E : E_X6_differ Γ Q) : jSA Γ Q 23 (o_aload 0) 1 := so_aload_n E.2.2.1 rfl dX6_differ_23
theorem oo_X6_differ_24 {Γ : jΓ} {Q : jPost} (E : E_X6_differ Γ Q) : jSA Γ Q 24 (o_getf 6 0) 3 := so_getf (ci := 6) E.2.2.1 wi_X6_differ_X6 (by rw [E.2.1]; rfl) 0 (by decide) wl_X6_differ_12 dX6_differ_24
theorem oo_X6_differ_27 {Γ : jΓ} {Q : jPost} (E : E_X6_differ Γ Q) : jSA Γ Q 27 (o_getf 1 2) 3 := so_getf (ci := 1) E.2.2.1 wi_X6_differ_X1 (by rw [E.2.1]; rfl) 2 (by decide) wl_X6_differ_111 dX6_differ_27
theorem oo_X6_differ_30 {Γ : jΓ} {Q : jPost} (E : E_X6_differ Γ Q) : jSA Γ Q 30 (o_iload 2) 1 := so_iload_n E.2.2.1 rfl dX6_differ_30
theorem oo_X6_differ_31 {Γ : jΓ} {Q : jPost} (E : E_X6_differ Γ Q) : jSA Γ Q 31 (o_iald) 1 := so_iald E.2.2.1 dX6_differ_31
theorem oo_X6_differ_32 {Γ : jΓ} {Q : jPost} (E : E_X6_differ Γ Q) : jSA Γ Q 32 (o_aload 0) 1 := so_aload_n E.2.2.1 rfl dX6_differ_32
theorem oo_X6_differ_33 {Γ : jΓ} {Q : jPost} (E : E_X6_differ Γ Q) : jSA Γ Q 33 (o_getf 6 5) 3 := so_getf (ci := 6) E.2.2.1 wi_X6_differ_X6 (by rw [E.2.1]; rfl) 5 (by decide) wl_X6_differ_44 dX6_differ_33
theorem oo_X6_differ_36 {Γ : jΓ} {Q : jPost} (E : E_X6_differ Γ Q) : jSA Γ Q 36 (o_getf 2 5) 3 := so_getf (ci := 2) E.2.2.1 wi_X6_differ_X2 (by rw [E.2.1]; rfl) 5 (by decide) wl_X6_differ_205 dX6_differ_36
theorem oo_X6_differ_39 {Γ : jΓ} {Q : jPost} (E : E_X6_differ Γ Q) : jSA Γ Q 39 (o_iload 2) 1 := so_iload_n E.2.2.1 rfl dX6_differ_39
theorem oo_X6_differ_40 {Γ : jΓ} {Q : jPost} (E : E_X6_differ Γ Q) : jSA Γ Q 40 (o_iald) 1 := so_iald E.2.2.1 dX6_differ_40
theorem oo_X6_differ_41 {Γ : jΓ} {Q : jPost} (E : E_X6_differ Γ Q) : jSA Γ Q 41 (o_iceq 47) 3 := so_iceq E.2.2.1 (by decide) dX6_differ_41
theorem oo_X6_differ_44 {Γ : jΓ} {Q : jPost} (E : E_X6_differ Γ Q) : jSA Γ Q 44 (o_iinc 1 (1)) 3 := so_iinc E.2.2.1 rfl (by rw [E.1]; decide) dX6_differ_44
theorem oo_X6_differ_47 {Γ : jΓ} {Q : jPost} (E : E_X6_differ Γ Q) : jSA Γ Q 47 (o_iinc 2 (1)) 3 := so_iinc E.2.2.1 rfl (by rw [E.1]; decide) dX6_differ_47
theorem oo_X6_differ_50 {Γ : jΓ} {Q : jPost} (E : E_X6_differ Γ Q) : jSA Γ Q 50 (o_goto 17) 3 := so_goto E.2.2.1 (by decide) dX6_differ_50
theorem oo_X6_differ_53 {Γ : jΓ} {Q : jPost} (E : E_X6_differ Γ Q) : jSA Γ Q 53 (o_iload 1) 1 := so_iload_n E.2.2.1 rfl dX6_differ_53
theorem oo_X6_differ_54 {Γ : jΓ} {Q : jPost} (E : E_X6_differ Γ Q) : jSA Γ Q 54 (o_ireti) 1 := so_ireti E.2.2.1 E.2.2.2 dX6_differ_54
theorem ok_X6_differ_0 {Γ : jΓ} {Q : jPost} (E : E_X6_differ Γ Q) : jSS Γ Q 0 sg_X6_differ_0 := ⟨oo_X6_differ_0 E, oo_X6_differ_1 E, oo_X6_differ_4 E, oo_X6_differ_7 E, oo_X6_differ_10 E, oo_X6_differ_12 E, trivial⟩
theorem ok_X6_differ_13 {Γ : jΓ} {Q : jPost} (E : E_X6_differ Γ Q) : jSS Γ Q 13 sg_X6_differ_13 := ⟨oo_X6_differ_13 E, oo_X6_differ_14 E, oo_X6_differ_15 E, oo_X6_differ_16 E, trivial⟩
theorem ok_X6_differ_17 {Γ : jΓ} {Q : jPost} (E : E_X6_differ Γ Q) : jSS Γ Q 17 sg_X6_differ_17 := ⟨oo_X6_differ_17 E, oo_X6_differ_18 E, oo_X6_differ_20 E, oo_X6_differ_23 E, oo_X6_differ_24 E, oo_X6_differ_27 E, oo_X6_differ_30 E, oo_X6_differ_31 E, oo_X6_differ_32 E, oo_X6_differ_33 E, oo_X6_differ_36 E, oo_X6_differ_39 E, oo_X6_differ_40 E, oo_X6_differ_41 E, oo_X6_differ_44 E, oo_X6_differ_47 E, oo_X6_differ_50 E, trivial⟩
theorem ok_X6_differ_47 {Γ : jΓ} {Q : jPost} (E : E_X6_differ Γ Q) : jSS Γ Q 47 sg_X6_differ_47 := ⟨oo_X6_differ_47 E, oo_X6_differ_50 E, trivial⟩
theorem ok_X6_differ_53 {Γ : jΓ} {Q : jPost} (E : E_X6_differ Γ Q) : jSS Γ Q 53 sg_X6_differ_53 := ⟨oo_X6_differ_53 E, oo_X6_differ_54 E, trivial⟩
theorem okc_X6_differ {Γ : jΓ} {Q : jPost} (E : E_X6_differ Γ Q) (t : Nat) : jSS Γ Q t (cd_X6_differ t) := by
  unfold cd_X6_differ
  split
  · exact ok_X6_differ_13 E
  · exact ok_X6_differ_47 E
  · exact ok_X6_differ_53 E
  · trivial
theorem m_X6_differ_of (l : Launch) (hv : ∀ (G : jGt) (Q : jPost) (vs : List Value) (K : List jK) (h : jM), jHd cd_X6_differ G Q sg_X6_differ_0 0 → jHd cd_X6_differ G Q sg_X6_differ_17 17 → T_X6_differ vs K h Q → (lg_sl vs).length ≤ 3 ∧ G 0 (jinit vs 3) [] K h 0 0) : jHolds vwCl l yX6_differ wsX6_differ 0 0 0 0 T_X6_differ := by
  refine jMet (cc := cX6_differ) (maxL := 3) (rt := (some .int)) (by decide +kernel) rfl (fun Γ Q vs K h hl hn hcl C hR hT => hv (jG Γ) Q vs K h ?_ ?_ hT)
  · exact fun n L st K h ce sl => jwp_ok (okc_X6_differ ⟨hn, hcl, C, hR⟩) n sg_X6_differ_0 0 (ok_X6_differ_0 ⟨hn, hcl, C, hR⟩) L st K h ce sl
  · exact fun n L st K h ce sl => jwp_ok (okc_X6_differ ⟨hn, hcl, C, hR⟩) n sg_X6_differ_17 17 (ok_X6_differ_17 ⟨hn, hcl, C, hR⟩) L st K h ce sl
set_option maxHeartbeats 4000000 in
set_option maxRecDepth 100000 in
theorem v_X6_differ {G : jGt} {Q : jPost} {K : List jK} {h : jM}  (hT : jX K ∧ (h 24 0 = 0 → Q (some (.int (-2))) K h) ∧ (¬ h 24 0 = 0 → Q (some (.int (nI (jcnt (fun k => ¬ h 2 k = h 26 k) 57600)))) K h)) (H0 : jHd cd_X6_differ G Q sg_X6_differ_0 0) (H17 : jHd cd_X6_differ G Q sg_X6_differ_17 17) : G 0 [some (.ref 0), none, none] [] K h 0 0 := by
  obtain ⟨hX, hT0, hT1⟩ := hT
  have loop : ¬ h 24 0 = 0 → ∀ n i, i + n = 57600 → G 17 [some (.ref 0), some (.int (nI (jcnt (fun k => ¬ h 2 k = h 26 k) i))), some (.int (nI i))] [] K h 0 0 := by
    intro hz n
    induction n with
    | zero =>
      intro i hi
      have : i = 57600 := by omega
      subst this
      refine H17 40 _ _ _ _ _ _ ?_
      simp only [sg_X6_differ_0, sg_X6_differ_13, sg_X6_differ_17, sg_X6_differ_47, sg_X6_differ_53, cd_X6_differ, jwp, o_ic, o_lc, o_iload, o_lload, o_aload, o_istore, o_lstore, o_astore, o_iinc, o_pop, o_dup, o_dup2, o_iadd, o_isub, o_imul, o_iand, o_ior, o_ishl, o_ladd, o_lmul, o_land, o_lor, o_idiv, o_irem, o_ineg, o_i2l, o_l2i, o_i2b, o_i2s, o_lushr, o_lshr, o_lshl, o_lcmp, o_ifeq, o_ifne, o_iflt, o_ifge, o_ifgt, o_ifle, o_iceq, o_icne, o_iclt, o_icge, o_icgt, o_icle, o_goto, o_tsw, jsw, o_lsw, jlk, o_getf, o_putf, o_putz, o_iald, o_zald, o_iast, o_zast, o_aald, o_alen, o_gets, o_zld, o_zlen, o_cpy, o_call, o_callV, o_ireti, o_iretz, o_lret, o_vret, jg, js, jkp, jkill, jsp, jcs, jfw, jov, Value.category, Option.toList_some, Option.toList_none, List.nil_append, List.cons_append, List.append_nil, Nat.reduceAdd, true_and, and_true, jb0, jb01, jb1, jem, true_or, or_true, Classical.not_not, forall_const, List.length_cons, List.length_nil, Nat.reduceLeDiff, Nat.zero_le, Nat.reduceLT, hX, kx_0_0 hX, kx_0_1 hX, kx_0_2 hX, kx_0_3 hX, kx_0_4 hX, kx_0_5 hX, kx_0_6 hX, kx_0_7 hX, kx_0_8 hX, kxo_0 hX, kx_1_0 hX, kx_1_1 hX, kx_1_2 hX, kx_1_3 hX, kxo_1 hX, kx_4_0 hX, kx_4_1 hX, kx_4_2 hX, kxo_4 hX, kx_19_0 hX, kx_19_1 hX, kx_19_2 hX, kx_19_3 hX, kx_19_4 hX, kxo_19 hX, kx_24_0 hX, kx_24_1 hX, kx_24_2 hX, kx_24_3 hX, kx_24_4 hX, kx_24_5 hX, kx_24_6 hX, kxo_24 hX, kxa_2 hX, kxa_3 hX, kxa_6 hX, kxa_7 hX, kxa_8 hX, kxa_9 hX, kxa_10 hX, kxa_18 hX, kxa_20 hX, kxa_21 hX, kxa_22 hX, kxa_23 hX, kxa_26 hX, kxa_27 hX, kxr_5 hX, kxr_11 hX, kxr_28 hX]
      rw [e57600]
      exact ⟨fun _ => hT1 hz, fun q => absurd (Int32.le_refl _) q⟩
    | succ n ih =>
      intro i hi
      have h2 := ih (i + 1) (by omega)
      have hv : vp_in (nI i) 57600 := vp_in_nI (by omega) (by decide)
      have h31 : i < 2147483648 := by omega
      refine H17 40 _ _ _ _ _ _ ?_
      simp only [sg_X6_differ_0, sg_X6_differ_13, sg_X6_differ_17, sg_X6_differ_47, sg_X6_differ_53, cd_X6_differ, jwp, o_ic, o_lc, o_iload, o_lload, o_aload, o_istore, o_lstore, o_astore, o_iinc, o_pop, o_dup, o_dup2, o_iadd, o_isub, o_imul, o_iand, o_ior, o_ishl, o_ladd, o_lmul, o_land, o_lor, o_idiv, o_irem, o_ineg, o_i2l, o_l2i, o_i2b, o_i2s, o_lushr, o_lshr, o_lshl, o_lcmp, o_ifeq, o_ifne, o_iflt, o_ifge, o_ifgt, o_ifle, o_iceq, o_icne, o_iclt, o_icge, o_icgt, o_icle, o_goto, o_tsw, jsw, o_lsw, jlk, o_getf, o_putf, o_putz, o_iald, o_zald, o_iast, o_zast, o_aald, o_alen, o_gets, o_zld, o_zlen, o_cpy, o_call, o_callV, o_ireti, o_iretz, o_lret, o_vret, jg, js, jkp, jkill, jsp, jcs, jfw, jov, Value.category, Option.toList_some, Option.toList_none, List.nil_append, List.cons_append, List.append_nil, Nat.reduceAdd, true_and, and_true, jb0, jb01, jb1, jem, true_or, or_true, Classical.not_not, forall_const, List.length_cons, List.length_nil, Nat.reduceLeDiff, Nat.zero_le, Nat.reduceLT, hX, kx_0_0 hX, kx_0_1 hX, kx_0_2 hX, kx_0_3 hX, kx_0_4 hX, kx_0_5 hX, kx_0_6 hX, kx_0_7 hX, kx_0_8 hX, kxo_0 hX, kx_1_0 hX, kx_1_1 hX, kx_1_2 hX, kx_1_3 hX, kxo_1 hX, kx_4_0 hX, kx_4_1 hX, kx_4_2 hX, kxo_4 hX, kx_19_0 hX, kx_19_1 hX, kx_19_2 hX, kx_19_3 hX, kx_19_4 hX, kxo_19 hX, kx_24_0 hX, kx_24_1 hX, kx_24_2 hX, kx_24_3 hX, kx_24_4 hX, kx_24_5 hX, kx_24_6 hX, kxo_24 hX, kxa_2 hX, kxa_3 hX, kxa_6 hX, kxa_7 hX, kxa_8 hX, kxa_9 hX, kxa_10 hX, kxa_18 hX, kxa_20 hX, kxa_21 hX, kxa_22 hX, kxa_23 hX, kxa_26 hX, kxa_27 hX, kxr_5 hX, kxr_11 hX, kxr_28 hX, hv, nI_clamp h31]
      rw [e57600]
      refine ⟨fun c => absurd ((nI_leI (by omega) (by omega)).mp c) (by omega), fun _ => ⟨fun c => ?_, fun c => ?_⟩⟩
      · rw [jcnt_neg (fun z => z c)] at h2
        rw [nI_1]
        exact h2
      · rw [jcnt_pos c] at h2
        rw [nI_1, nI_1]
        exact h2
  refine H0 40 _ _ _ _ _ _ ?_
  simp only [sg_X6_differ_0, sg_X6_differ_13, sg_X6_differ_17, sg_X6_differ_47, sg_X6_differ_53, cd_X6_differ, jwp, o_ic, o_lc, o_iload, o_lload, o_aload, o_istore, o_lstore, o_astore, o_iinc, o_pop, o_dup, o_dup2, o_iadd, o_isub, o_imul, o_iand, o_ior, o_ishl, o_ladd, o_lmul, o_land, o_lor, o_idiv, o_irem, o_ineg, o_i2l, o_l2i, o_i2b, o_i2s, o_lushr, o_lshr, o_lshl, o_lcmp, o_ifeq, o_ifne, o_iflt, o_ifge, o_ifgt, o_ifle, o_iceq, o_icne, o_iclt, o_icge, o_icgt, o_icle, o_goto, o_tsw, jsw, o_lsw, jlk, o_getf, o_putf, o_putz, o_iald, o_zald, o_iast, o_zast, o_aald, o_alen, o_gets, o_zld, o_zlen, o_cpy, o_call, o_callV, o_ireti, o_iretz, o_lret, o_vret, jg, js, jkp, jkill, jsp, jcs, jfw, jov, Value.category, Option.toList_some, Option.toList_none, List.nil_append, List.cons_append, List.append_nil, Nat.reduceAdd, true_and, and_true, jb0, jb01, jb1, jem, true_or, or_true, Classical.not_not, forall_const, List.length_cons, List.length_nil, Nat.reduceLeDiff, Nat.zero_le, Nat.reduceLT, hX, kx_0_0 hX, kx_0_1 hX, kx_0_2 hX, kx_0_3 hX, kx_0_4 hX, kx_0_5 hX, kx_0_6 hX, kx_0_7 hX, kx_0_8 hX, kxo_0 hX, kx_1_0 hX, kx_1_1 hX, kx_1_2 hX, kx_1_3 hX, kxo_1 hX, kx_4_0 hX, kx_4_1 hX, kx_4_2 hX, kxo_4 hX, kx_19_0 hX, kx_19_1 hX, kx_19_2 hX, kx_19_3 hX, kx_19_4 hX, kxo_19 hX, kx_24_0 hX, kx_24_1 hX, kx_24_2 hX, kx_24_3 hX, kx_24_4 hX, kx_24_5 hX, kx_24_6 hX, kxo_24 hX, kxa_2 hX, kxa_3 hX, kxa_6 hX, kxa_7 hX, kxa_8 hX, kxa_9 hX, kxa_10 hX, kxa_18 hX, kxa_20 hX, kxa_21 hX, kxa_22 hX, kxa_23 hX, kxa_26 hX, kxa_27 hX, kxr_5 hX, kxr_11 hX, kxr_28 hX]
  refine ⟨fun c => loop c 57600 0 (by omega), fun c => hT0 c⟩
theorem m_X6_differ (l : Launch) : jHolds vwCl l yX6_differ wsX6_differ 0 0 0 0 T_X6_differ := by
  refine m_X6_differ_of l (fun G Q vs K h H0 H17 hT => ?_)
  unfold T_X6_differ at hT
  split at hT
  · obtain ⟨rfl, hT⟩ := hT
    exact ⟨Nat.le_of_ble_eq_true rfl, v_X6_differ hT H0 H17⟩
  · exact hT.elim
