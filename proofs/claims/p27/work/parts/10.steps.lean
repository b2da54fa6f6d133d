/-! ===== steps of the class ===== -/
theorem nI_clampI {x : Int32} (h : 0 ≤ x.toInt) : nI x.toNatClampNeg = x := by
  obtain ⟨j, hj, rfl⟩ := nI_of (x := x) (by rw [Int32.lt_iff_toInt_lt]; exact fun q => absurd q (by show ¬ x.toInt < 0; omega))
  rw [nI_clamp hj]
/-- where the acts back of a step back end -/
noncomputable def aBPl (q : aQ) (s : aS) (m i : Nat) : Nat := aBP q (aBks q s m (m - 1 - i)) i

/-! X6_takeBackActs -/
def T_X6_takeBackActs : jT := fun vs K h Q => match vs with
  | [.ref r0, .int m] => r0 = 0 ∧ (jX K ∧ (∃ (M cnt : Nat) (s : aS) (v : Nat → Int32), M ≤ cnt ∧ cnt ≤ 6 ∧ m = nI M ∧ aVal (vQ h) s cnt ∧ aAll (vQ h) s M ∧ vS h = aActs (vQ h) s M ∧ h 3 = vB (aP s) v M ∧ ∀ g, vS g = s → g 3 = v → vQ g = vQ h → frS h g → Q none K g))
  | _ => False
def sg_X6_takeBackActs_0 : jS := [(o_iload 1, 1), (o_ic (1), 1), (o_isub, 1), (o_istore 2, 1)]
def sg_X6_takeBackActs_4 : jS := [(o_iload 2, 1), (o_iflt 25, 3), (o_aload 0, 1), (o_aload 0, 1), (o_getf 6 2, 3), (o_iload 2, 1), (o_aald 2, 1), (o_callV 2 6 T_X6_actBack, 3), (o_pop, 1), (o_iinc 2 (-1), 3), (o_goto 4, 3)]
def sg_X6_takeBackActs_25 : jS := [(o_vret, 1)]
def cd_X6_takeBackActs : Nat → jS := fun t => match t with
  | 25 => sg_X6_takeBackActs_25
  | _ => []
theorem wl_X6_takeBackActs_25 : Cond.fieldLink RX6 25 (TX6 2).1 (TX6 2).2.1 (TX6 2).2.2.1 ∈ wsX6_takeBackActs := by decide +kernel
theorem wi_X6_takeBackActs_X6 : ∀ w ∈ u_ws RX6 TX6 9, w ∈ wsX6_takeBackActs := by decide +kernel
def E_X6_takeBackActs (Γ : jΓ) (Q : jPost) : Prop := Γ.2.2.2.2.2.2.2.2.2.2.1 = 3 ∧ Γ.2.2.2.2.2.2.2.2.2.2.2.1 = vwCl ∧ jC Γ cX6_takeBackActs RX6 "takeBackActs" none wsX6_takeBackActs 3 69 0 0 ∧ jR Γ Q 0 0
theorem oo_X6_takeBackActs_0 {Γ : jΓ} {Q : jPost} (E : E_X6_takeBackActs Γ Q) : jSA Γ Q 0 (o_iload 1) 1 := so_iload_n E.2.2.1 rfl dX6_takeBackActs_0
theorem oo_X6_takeBackActs_1 {Γ : jΓ} {Q : jPost} (E : E_X6_takeBackActs Γ Q) : jSA Γ Q 1 (o_ic (1)) 1 := so_iconst E.2.2.1 rfl dX6_takeBackActs_1
theorem oo_X6_takeBackActs_2 {Γ : jΓ} {Q : jPost} (E : E_X6_takeBackActs Γ Q) : jSA Γ Q 2 (o_isub) 1 := so_isub E.2.2.1 dX6_takeBackActs_2
theorem oo_X6_takeBackActs_3 {Γ : jΓ} {Q : jPost} (E : E_X6_takeBackActs Γ Q) : jSA Γ Q 3 (o_istore 2) 1 := so_istore_n E.2.2.1 rfl (by rw [E.1]; decide) dX6_takeBackActs_3
theorem oo_X6_takeBackActs_4 {Γ : jΓ} {Q : jPost} (E : E_X6_takeBackActs Γ Q) : jSA Γ Q 4 (o_iload 2) 1 := so_iload_n E.2.2.1 rfl dX6_takeBackActs_4
theorem oo_X6_takeBackActs_5 {Γ : jΓ} {Q : jPost} (E : E_X6_takeBackActs Γ Q) : jSA Γ Q 5 (o_iflt 25) 3 := so_iflt E.2.2.1 (by decide) dX6_takeBackActs_5
theorem oo_X6_takeBackActs_8 {Γ : jΓ} {Q : jPost} (E : E_X6_takeBackActs Γ Q) : jSA Γ Q 8 (o_aload 0) 1 := so_aload_n E.2.2.1 rfl dX6_takeBackActs_8
theorem oo_X6_takeBackActs_9 {Γ : jΓ} {Q : jPost} (E : E_X6_takeBackActs Γ Q) : jSA Γ Q 9 (o_aload 0) 1 := so_aload_n E.2.2.1 rfl dX6_takeBackActs_9
theorem oo_X6_takeBackActs_10 {Γ : jΓ} {Q : jPost} (E : E_X6_takeBackActs Γ Q) : jSA Γ Q 10 (o_getf 6 2) 3 := so_getf (ci := 6) E.2.2.1 wi_X6_takeBackActs_X6 (by rw [E.2.1]; rfl) 2 (by decide) wl_X6_takeBackActs_25 dX6_takeBackActs_10
theorem oo_X6_takeBackActs_13 {Γ : jΓ} {Q : jPost} (E : E_X6_takeBackActs Γ Q) : jSA Γ Q 13 (o_iload 2) 1 := so_iload_n E.2.2.1 rfl dX6_takeBackActs_13
theorem oo_X6_takeBackActs_14 {Γ : jΓ} {Q : jPost} (E : E_X6_takeBackActs Γ Q) : jSA Γ Q 14 (o_aald 2) 1 := so_aald2 E.2.2.1 dX6_takeBackActs_14
theorem oo_X6_takeBackActs_15 {Γ : jΓ} {Q : jPost} (E : E_X6_takeBackActs Γ Q) : jSA Γ Q 15 (o_callV 2 6 T_X6_actBack) 3 := so_callV E.2.2.1 (ci := 6) (by rw [E.2.1]; rfl) gX6_takeBackActs_X6_actBack (by decide +kernel) rfl (by rw [E.2.1]; exact m_X6_actBack _) (by decide) (by decide) dX6_takeBackActs_15
theorem oo_X6_takeBackActs_18 {Γ : jΓ} {Q : jPost} (E : E_X6_takeBackActs Γ Q) : jSA Γ Q 18 (o_pop) 1 := so_pop E.2.2.1 dX6_takeBackActs_18
theorem oo_X6_takeBackActs_19 {Γ : jΓ} {Q : jPost} (E : E_X6_takeBackActs Γ Q) : jSA Γ Q 19 (o_iinc 2 (-1)) 3 := so_iinc E.2.2.1 rfl (by rw [E.1]; decide) dX6_takeBackActs_19
theorem oo_X6_takeBackActs_22 {Γ : jΓ} {Q : jPost} (E : E_X6_takeBackActs Γ Q) : jSA Γ Q 22 (o_goto 4) 3 := so_goto E.2.2.1 (by decide) dX6_takeBackActs_22
theorem oo_X6_takeBackActs_25 {Γ : jΓ} {Q : jPost} (E : E_X6_takeBackActs Γ Q) : jSA Γ Q 25 (o_vret) 1 := so_vret E.2.2.1 E.2.2.2 dX6_takeBackActs_25
theorem ok_X6_takeBackActs_0 {Γ : jΓ} {Q : jPost} (E : E_X6_takeBackActs Γ Q) : jSS Γ Q 0 sg_X6_takeBackActs_0 := ⟨oo_X6_takeBackActs_0 E, oo_X6_takeBackActs_1 E, oo_X6_takeBackActs_2 E, oo_X6_takeBackActs_3 E, trivial⟩
theorem ok_X6_takeBackActs_4 {Γ : jΓ} {Q : jPost} (E : E_X6_takeBackActs Γ Q) : jSS Γ Q 4 sg_X6_takeBackActs_4 := ⟨oo_X6_takeBackActs_4 E, oo_X6_takeBackActs_5 E, oo_X6_takeBackActs_8 E, oo_X6_takeBackActs_9 E, oo_X6_takeBackActs_10 E, oo_X6_takeBackActs_13 E, oo_X6_takeBackActs_14 E, oo_X6_takeBackActs_15 E, oo_X6_takeBackActs_18 E, oo_X6_takeBackActs_19 E, oo_X6_takeBackActs_22 E, trivial⟩
theorem ok_X6_takeBackActs_25 {Γ : jΓ} {Q : jPost} (E : E_X6_takeBackActs Γ Q) : jSS Γ Q 25 sg_X6_takeBackActs_25 := ⟨oo_X6_takeBackActs_25 E, trivial⟩
theorem okc_X6_takeBackActs {Γ : jΓ} {Q : jPost} (E : E_X6_takeBackActs Γ Q) (t : Nat) : jSS Γ Q t (cd_X6_takeBackActs t) := by
  unfold cd_X6_takeBackActs
  split
  · exact ok_X6_takeBackActs_25 E
  · trivial
theorem m_X6_takeBackActs_of (l : Launch) (hv : ∀ (G : jGt) (Q : jPost) (vs : List Value) (K : List jK) (h : jM), jHd cd_X6_takeBackActs G Q sg_X6_takeBackActs_0 0 → jHd cd_X6_takeBackActs G Q sg_X6_takeBackActs_4 4 → T_X6_takeBackActs vs K h Q → (lg_sl vs).length ≤ 3 ∧ G 0 (jinit vs 3) [] K h 0 0) : jHolds vwCl l yX6_takeBackActs wsX6_takeBackActs 3 69 0 0 T_X6_takeBackActs := by
  refine jMet (cc := cX6_takeBackActs) (maxL := 3) (rt := none) (by decide +kernel) rfl (fun Γ Q vs K h hl hn hcl C hR hT => hv (jG Γ) Q vs K h ?_ ?_ hT)
  · exact fun n L st K h ce sl => jwp_ok (okc_X6_takeBackActs ⟨hn, hcl, C, hR⟩) n sg_X6_takeBackActs_0 0 (ok_X6_takeBackActs_0 ⟨hn, hcl, C, hR⟩) L st K h ce sl
  · exact fun n L st K h ce sl => jwp_ok (okc_X6_takeBackActs ⟨hn, hcl, C, hR⟩) n sg_X6_takeBackActs_4 4 (ok_X6_takeBackActs_4 ⟨hn, hcl, C, hR⟩) L st K h ce sl
set_option maxHeartbeats 4000000 in
set_option maxRecDepth 100000 in
theorem v_X6_takeBackActs {G : jGt} {Q : jPost} {K : List jK} {h : jM} {m : Int32} (hT : jX K ∧ (∃ (M cnt : Nat) (s : aS) (v : Nat → Int32), M ≤ cnt ∧ cnt ≤ 6 ∧ m = nI M ∧ aVal (vQ h) s cnt ∧ aAll (vQ h) s M ∧ vS h = aActs (vQ h) s M ∧ h 3 = vB (aP s) v M ∧ ∀ g, vS g = s → g 3 = v → vQ g = vQ h → frS h g → Q none K g)) (H0 : jHd cd_X6_takeBackActs G Q sg_X6_takeBackActs_0 0) (H4 : jHd cd_X6_takeBackActs G Q sg_X6_takeBackActs_4 4) : G 0 [some (.ref 0), some (.int m), none] [] K h 0 0 := by
  obtain ⟨hX, M, cnt, s, v, hMc, hc6, rfl, hv, hall, hS0, h30, hT⟩ := hT
  have loop : ∀ k, k ≤ M → ∀ g, vS g = aActs (vQ h) s k → g 3 = vB (aP s) v k → vQ g = vQ h → frS h g → G 4 [some (.ref 0), some (.int (nI M)), some (.int (nI k + -1))] [] K g 0 0 := by
    intro k
    induction k with
    | zero =>
      intro hk g hS h3 hQ hfr
      refine H4 60 _ _ _ _ _ _ ?_
      simp only [sg_X6_takeBackActs_0, sg_X6_takeBackActs_4, sg_X6_takeBackActs_25, cd_X6_takeBackActs, jwp, o_ic, o_lc, o_iload, o_lload, o_aload, o_istore, o_lstore, o_astore, o_iinc, o_pop, o_dup, o_dup2, o_iadd, o_isub, o_imul, o_iand, o_ior, o_ishl, o_ladd, o_lmul, o_land, o_lor, o_idiv, o_irem, o_ineg, o_i2l, o_l2i, o_i2b, o_i2s, o_lushr, o_lshr, o_lshl, o_lcmp, o_ifeq, o_ifne, o_iflt, o_ifge, o_ifgt, o_ifle, o_iceq, o_icne, o_iclt, o_icge, o_icgt, o_icle, o_goto, o_tsw, jsw, o_lsw, jlk, o_getf, o_putf, o_putz, o_iald, o_zald, o_iast, o_zast, o_aald, o_alen, o_gets, o_zld, o_zlen, o_cpy, o_call, o_callV, o_ireti, o_iretz, o_lret, o_vret, jg, js, jkp, jkill, jsp, jcs, jfw, jov, Value.category, Option.toList_some, Option.toList_none, List.nil_append, List.cons_append, List.append_nil, Nat.reduceAdd, true_and, and_true, jb0, jb01, jb1, jem, true_or, or_true, Classical.not_not, forall_const, List.length_cons, List.length_nil, Nat.reduceLeDiff, Nat.zero_le, Nat.reduceLT, hX, kx_0_0 hX, kx_0_1 hX, kx_0_2 hX, kx_0_3 hX, kx_0_4 hX, kx_0_5 hX, kx_0_6 hX, kx_0_7 hX, kx_0_8 hX, kxo_0 hX, kx_1_0 hX, kx_1_1 hX, kx_1_2 hX, kx_1_3 hX, kxo_1 hX, kx_4_0 hX, kx_4_1 hX, kx_4_2 hX, kxo_4 hX, kx_19_0 hX, kx_19_1 hX, kx_19_2 hX, kx_19_3 hX, kx_19_4 hX, kxo_19 hX, kx_24_0 hX, kx_24_1 hX, kx_24_2 hX, kx_24_3 hX, kx_24_4 hX, kx_24_5 hX, kx_24_6 hX, kxo_24 hX, kxa_2 hX, kxa_3 hX, kxa_6 hX, kxa_7 hX, kxa_8 hX, kxa_9 hX, kxa_10 hX, kxa_18 hX, kxa_20 hX, kxa_21 hX, kxa_22 hX, kxa_23 hX, kxa_26 hX, kxa_27 hX, kxr_5 hX, kxr_11 hX, kxr_28 hX, T_X6_actBack]
      rw [nI_neg1]
      exact ⟨fun _ => hT g hS h3 hQ hfr, fun q => absurd (by decide) q⟩
    | succ k ih =>
      intro hk g hS h3 hQ hfr
      have hk6 : k < 6 := by omega
      have hvk := aVal_acts hv k (by omega) (fun j hj => hall j (by omega))
      have hvk1 := aVal_acts hv (k + 1) (by omega) (fun j hj => hall j (by omega))
      have hvg : aVal (vQ g) (vS g) cnt := by rw [hQ, hS]; exact hvk1
      obtain ⟨b1, b2, b3⟩ := aBack_act hvk.1 (hvk.2 k (by omega)) (hall k (by omega))
      have hS' : vS g = aAct (vQ h) (aActs (vQ h) s k) k := hS
      have hb : aBOK (vQ g) (vS g) k := by rw [hQ, hS']; exact b1
      have hon : onF (cBX g (12 + k)) (cBY g (12 + k)) := by rw [v_BX g hk6, v_BY g hk6]; exact hb
      have hk31 : k < 2147483648 := by omega
      refine H4 60 _ _ _ _ _ _ ?_
      simp only [sg_X6_takeBackActs_0, sg_X6_takeBackActs_4, sg_X6_takeBackActs_25, cd_X6_takeBackActs, jwp, o_ic, o_lc, o_iload, o_lload, o_aload, o_istore, o_lstore, o_astore, o_iinc, o_pop, o_dup, o_dup2, o_iadd, o_isub, o_imul, o_iand, o_ior, o_ishl, o_ladd, o_lmul, o_land, o_lor, o_idiv, o_irem, o_ineg, o_i2l, o_l2i, o_i2b, o_i2s, o_lushr, o_lshr, o_lshl, o_lcmp, o_ifeq, o_ifne, o_iflt, o_ifge, o_ifgt, o_ifle, o_iceq, o_icne, o_iclt, o_icge, o_icgt, o_icle, o_goto, o_tsw, jsw, o_lsw, jlk, o_getf, o_putf, o_putz, o_iald, o_zald, o_iast, o_zast, o_aald, o_alen, o_gets, o_zld, o_zlen, o_cpy, o_call, o_callV, o_ireti, o_iretz, o_lret, o_vret, jg, js, jkp, jkill, jsp, jcs, jfw, jov, Value.category, Option.toList_some, Option.toList_none, List.nil_append, List.cons_append, List.append_nil, Nat.reduceAdd, true_and, and_true, jb0, jb01, jb1, jem, true_or, or_true, Classical.not_not, forall_const, List.length_cons, List.length_nil, Nat.reduceLeDiff, Nat.zero_le, Nat.reduceLT, hX, kx_0_0 hX, kx_0_1 hX, kx_0_2 hX, kx_0_3 hX, kx_0_4 hX, kx_0_5 hX, kx_0_6 hX, kx_0_7 hX, kx_0_8 hX, kxo_0 hX, kx_1_0 hX, kx_1_1 hX, kx_1_2 hX, kx_1_3 hX, kxo_1 hX, kx_4_0 hX, kx_4_1 hX, kx_4_2 hX, kxo_4 hX, kx_19_0 hX, kx_19_1 hX, kx_19_2 hX, kx_19_3 hX, kx_19_4 hX, kxo_19 hX, kx_24_0 hX, kx_24_1 hX, kx_24_2 hX, kx_24_3 hX, kx_24_4 hX, kx_24_5 hX, kx_24_6 hX, kxo_24 hX, kxa_2 hX, kxa_3 hX, kxa_6 hX, kxa_7 hX, kxa_8 hX, kxa_9 hX, kxa_10 hX, kxa_18 hX, kxa_20 hX, kxa_21 hX, kxa_22 hX, kxa_23 hX, kxa_26 hX, kxa_27 hX, kxr_5 hX, kxr_11 hX, kxr_28 hX, T_X6_actBack, nI_m1, nI_clamp hk31, kx_ants hk6]
      refine ⟨fun q => absurd q (nI_pos hk31), fun _ => ⟨vp_in_nI hk6 (by decide), ⟨k, hk6, rfl⟩, vVal_fl hvg, vVal_an hvg (by omega) hk6, fun _ => ?_, fun q => absurd hon q⟩⟩
      refine ih (by omega) _ ?_ ?_ ?_ ?_
      · rw [vS_back hvg.1 (hvg.2 k (by omega)) hb hk6, hQ, hS', b3]
      · have e : aBP (vQ g) (vS g) k = aP s k := by rw [hQ, hS', b2, aP_acts]
        rw [back_3 g hk6, e, h3, vB_undo]
      · rw [vQ_back g hk6, hQ]
      · exact frS_tr hfr (back_fr g hk6)
  refine H0 60 _ _ _ _ _ _ ?_
  simp only [sg_X6_takeBackActs_0, sg_X6_takeBackActs_4, sg_X6_takeBackActs_25, cd_X6_takeBackActs, jwp, o_ic, o_lc, o_iload, o_lload, o_aload, o_istore, o_lstore, o_astore, o_iinc, o_pop, o_dup, o_dup2, o_iadd, o_isub, o_imul, o_iand, o_ior, o_ishl, o_ladd, o_lmul, o_land, o_lor, o_idiv, o_irem, o_ineg, o_i2l, o_l2i, o_i2b, o_i2s, o_lushr, o_lshr, o_lshl, o_lcmp, o_ifeq, o_ifne, o_iflt, o_ifge, o_ifgt, o_ifle, o_iceq, o_icne, o_iclt, o_icge, o_icgt, o_icle, o_goto, o_tsw, jsw, o_lsw, jlk, o_getf, o_putf, o_putz, o_iald, o_zald, o_iast, o_zast, o_aald, o_alen, o_gets, o_zld, o_zlen, o_cpy, o_call, o_callV, o_ireti, o_iretz, o_lret, o_vret, jg, js, jkp, jkill, jsp, jcs, jfw, jov, Value.category, Option.toList_some, Option.toList_none, List.nil_append, List.cons_append, List.append_nil, Nat.reduceAdd, true_and, and_true, jb0, jb01, jb1, jem, true_or, or_true, Classical.not_not, forall_const, List.length_cons, List.length_nil, Nat.reduceLeDiff, Nat.zero_le, Nat.reduceLT, hX, kx_0_0 hX, kx_0_1 hX, kx_0_2 hX, kx_0_3 hX, kx_0_4 hX, kx_0_5 hX, kx_0_6 hX, kx_0_7 hX, kx_0_8 hX, kxo_0 hX, kx_1_0 hX, kx_1_1 hX, kx_1_2 hX, kx_1_3 hX, kxo_1 hX, kx_4_0 hX, kx_4_1 hX, kx_4_2 hX, kxo_4 hX, kx_19_0 hX, kx_19_1 hX, kx_19_2 hX, kx_19_3 hX, kx_19_4 hX, kxo_19 hX, kx_24_0 hX, kx_24_1 hX, kx_24_2 hX, kx_24_3 hX, kx_24_4 hX, kx_24_5 hX, kx_24_6 hX, kxo_24 hX, kxa_2 hX, kxa_3 hX, kxa_6 hX, kxa_7 hX, kxa_8 hX, kxa_9 hX, kxa_10 hX, kxa_18 hX, kxa_20 hX, kxa_21 hX, kxa_22 hX, kxa_23 hX, kxa_26 hX, kxa_27 hX, kxr_5 hX, kxr_11 hX, kxr_28 hX]
  rw [Int32.sub_eq_add_neg]
  exact loop M (Nat.le_refl M) h hS0 h30 rfl (frS_rf h)
theorem m_X6_takeBackActs (l : Launch) : jHolds vwCl l yX6_takeBackActs wsX6_takeBackActs 3 69 0 0 T_X6_takeBackActs := by
  refine m_X6_takeBackActs_of l (fun G Q vs K h H0 H4 hT => ?_)
  unfold T_X6_takeBackActs at hT
  split at hT
  · obtain ⟨rfl, hT⟩ := hT
    exact ⟨Nat.le_of_ble_eq_true rfl, v_X6_takeBackActs hT H0 H4⟩
  · exact hT.elim

/-! X6_redoActs -/
def T_X6_redoActs : jT := fun vs K h Q => match vs with
  | [.ref r0, .int f] => r0 = 0 ∧ (jX K ∧ (∃ (k cnt : Nat) (s : aS) (v : Nat → Int32), k ≤ cnt ∧ cnt ≤ 6 ∧ h 0 7 = nI cnt ∧ f = nI (cnt - k) ∧ aVal (vQ h) s cnt ∧ (∀ j, j < k → aBOK (vQ h) (aBks (vQ h) s cnt j) (cnt - 1 - j)) ∧ vS h = aBks (vQ h) s cnt k ∧ h 3 = vL (aBPl (vQ h) s cnt) v cnt k ∧ ∀ g, vS g = s → g 3 = v → vQ g = vQ h → frS h g → Q none K g))
  | _ => False
def sg_X6_redoActs_0 : jS := [(o_iload 1, 1), (o_istore 2, 1)]
def sg_X6_redoActs_2 : jS := [(o_iload 2, 1), (o_aload 0, 1), (o_getf 6 7, 3), (o_icge 27, 3), (o_aload 0, 1), (o_aload 0, 1), (o_getf 6 2, 3), (o_iload 2, 1), (o_aald 2, 1), (o_callV 2 6 T_X6_act, 3), (o_pop, 1), (o_iinc 2 (1), 3), (o_goto 2, 3)]
def sg_X6_redoActs_27 : jS := [(o_vret, 1)]
def cd_X6_redoActs : Nat → jS := fun t => match t with
  | 27 => sg_X6_redoActs_27
  | _ => []
theorem wl_X6_redoActs_25 : Cond.fieldLink RX6 25 (TX6 2).1 (TX6 2).2.1 (TX6 2).2.2.1 ∈ wsX6_redoActs := by decide +kernel
theorem wl_X6_redoActs_67 : Cond.fieldLink RX6 67 (TX6 7).1 (TX6 7).2.1 (TX6 7).2.2.1 ∈ wsX6_redoActs := by decide +kernel
theorem wi_X6_redoActs_X6 : ∀ w ∈ u_ws RX6 TX6 9, w ∈ wsX6_redoActs := by decide +kernel
def E_X6_redoActs (Γ : jΓ) (Q : jPost) : Prop := Γ.2.2.2.2.2.2.2.2.2.2.1 = 3 ∧ Γ.2.2.2.2.2.2.2.2.2.2.2.1 = vwCl ∧ jC Γ cX6_redoActs RX6 "redoActs" none wsX6_redoActs 3 69 0 0 ∧ jR Γ Q 0 0
theorem oo_X6_redoActs_0 {Γ : jΓ} {Q : jPost} (E : E_X6_redoActs Γ Q) : jSA Γ Q 0 (o_iload 1) 1 := so_iload_n E.2.2.1 rfl dX6_redoActs_0
theorem oo_X6_redoActs_1 {Γ : jΓ} {Q : jPost} (E : E_X6_redoActs Γ Q) : jSA Γ Q 1 (o_istore 2) 1 := so_istore_n E.2.2.1 rfl (by rw [E.1]; decide) dX6_redoActs_1
theorem oo_X6_redoActs_2 {Γ : jΓ} {Q : jPost} (E : E_X6_redoActs Γ Q) : jSA Γ Q 2 (o_iload 2) 1 := so_iload_n E.2.2.1 rfl dX6_redoActs_2
theorem oo_X6_redoActs_3 {Γ : jΓ} {Q : jPost} (E : E_X6_redoActs Γ Q) : jSA Γ Q 3 (o_aload 0) 1 := so_aload_n E.2.2.1 rfl dX6_redoActs_3
theorem oo_X6_redoActs_4 {Γ : jΓ} {Q : jPost} (E : E_X6_redoActs Γ Q) : jSA Γ Q 4 (o_getf 6 7) 3 := so_getf (ci := 6) E.2.2.1 wi_X6_redoActs_X6 (by rw [E.2.1]; rfl) 7 (by decide) wl_X6_redoActs_67 dX6_redoActs_4
theorem oo_X6_redoActs_7 {Γ : jΓ} {Q : jPost} (E : E_X6_redoActs Γ Q) : jSA Γ Q 7 (o_icge 27) 3 := so_icge E.2.2.1 (by decide) dX6_redoActs_7
theorem oo_X6_redoActs_10 {Γ : jΓ} {Q : jPost} (E : E_X6_redoActs Γ Q) : jSA Γ Q 10 (o_aload 0) 1 := so_aload_n E.2.2.1 rfl dX6_redoActs_10
theorem oo_X6_redoActs_11 {Γ : jΓ} {Q : jPost} (E : E_X6_redoActs Γ Q) : jSA Γ Q 11 (o_aload 0) 1 := so_aload_n E.2.2.1 rfl dX6_redoActs_11
theorem oo_X6_redoActs_12 {Γ : jΓ} {Q : jPost} (E : E_X6_redoActs Γ Q) : jSA Γ Q 12 (o_getf 6 2) 3 := so_getf (ci := 6) E.2.2.1 wi_X6_redoActs_X6 (by rw [E.2.1]; rfl) 2 (by decide) wl_X6_redoActs_25 dX6_redoActs_12
theorem oo_X6_redoActs_15 {Γ : jΓ} {Q : jPost} (E : E_X6_redoActs Γ Q) : jSA Γ Q 15 (o_iload 2) 1 := so_iload_n E.2.2.1 rfl dX6_redoActs_15
theorem oo_X6_redoActs_16 {Γ : jΓ} {Q : jPost} (E : E_X6_redoActs Γ Q) : jSA Γ Q 16 (o_aald 2) 1 := so_aald2 E.2.2.1 dX6_redoActs_16
theorem oo_X6_redoActs_17 {Γ : jΓ} {Q : jPost} (E : E_X6_redoActs Γ Q) : jSA Γ Q 17 (o_callV 2 6 T_X6_act) 3 := so_callV E.2.2.1 (ci := 6) (by rw [E.2.1]; rfl) gX6_redoActs_X6_act (by decide +kernel) rfl (by rw [E.2.1]; exact m_X6_act _) (by decide) (by decide) dX6_redoActs_17
theorem oo_X6_redoActs_20 {Γ : jΓ} {Q : jPost} (E : E_X6_redoActs Γ Q) : jSA Γ Q 20 (o_pop) 1 := so_pop E.2.2.1 dX6_redoActs_20
theorem oo_X6_redoActs_21 {Γ : jΓ} {Q : jPost} (E : E_X6_redoActs Γ Q) : jSA Γ Q 21 (o_iinc 2 (1)) 3 := so_iinc E.2.2.1 rfl (by rw [E.1]; decide) dX6_redoActs_21
theorem oo_X6_redoActs_24 {Γ : jΓ} {Q : jPost} (E : E_X6_redoActs Γ Q) : jSA Γ Q 24 (o_goto 2) 3 := so_goto E.2.2.1 (by decide) dX6_redoActs_24
theorem oo_X6_redoActs_27 {Γ : jΓ} {Q : jPost} (E : E_X6_redoActs Γ Q) : jSA Γ Q 27 (o_vret) 1 := so_vret E.2.2.1 E.2.2.2 dX6_redoActs_27
theorem ok_X6_redoActs_0 {Γ : jΓ} {Q : jPost} (E : E_X6_redoActs Γ Q) : jSS Γ Q 0 sg_X6_redoActs_0 := ⟨oo_X6_redoActs_0 E, oo_X6_redoActs_1 E, trivial⟩
theorem ok_X6_redoActs_2 {Γ : jΓ} {Q : jPost} (E : E_X6_redoActs Γ Q) : jSS Γ Q 2 sg_X6_redoActs_2 := ⟨oo_X6_redoActs_2 E, oo_X6_redoActs_3 E, oo_X6_redoActs_4 E, oo_X6_redoActs_7 E, oo_X6_redoActs_10 E, oo_X6_redoActs_11 E, oo_X6_redoActs_12 E, oo_X6_redoActs_15 E, oo_X6_redoActs_16 E, oo_X6_redoActs_17 E, oo_X6_redoActs_20 E, oo_X6_redoActs_21 E, oo_X6_redoActs_24 E, trivial⟩
theorem ok_X6_redoActs_27 {Γ : jΓ} {Q : jPost} (E : E_X6_redoActs Γ Q) : jSS Γ Q 27 sg_X6_redoActs_27 := ⟨oo_X6_redoActs_27 E, trivial⟩
theorem okc_X6_redoActs {Γ : jΓ} {Q : jPost} (E : E_X6_redoActs Γ Q) (t : Nat) : jSS Γ Q t (cd_X6_redoActs t) := by
  unfold cd_X6_redoActs
  split
  · exact ok_X6_redoActs_27 E
  · trivial
theorem m_X6_redoActs_of (l : Launch) (hv : ∀ (G : jGt) (Q : jPost) (vs : List Value) (K : List jK) (h : jM), jHd cd_X6_redoActs G Q sg_X6_redoActs_0 0 → jHd cd_X6_redoActs G Q sg_X6_redoActs_2 2 → T_X6_redoActs vs K h Q → (lg_sl vs).length ≤ 3 ∧ G 0 (jinit vs 3) [] K h 0 0) : jHolds vwCl l yX6_redoActs wsX6_redoActs 3 69 0 0 T_X6_redoActs := by
  refine jMet (cc := cX6_redoActs) (maxL := 3) (rt := none) (by decide +kernel) rfl (fun Γ Q vs K h hl hn hcl C hR hT => hv (jG Γ) Q vs K h ?_ ?_ hT)
  · exact fun n L st K h ce sl => jwp_ok (okc_X6_redoActs ⟨hn, hcl, C, hR⟩) n sg_X6_redoActs_0 0 (ok_X6_redoActs_0 ⟨hn, hcl, C, hR⟩) L st K h ce sl
  · exact fun n L st K h ce sl => jwp_ok (okc_X6_redoActs ⟨hn, hcl, C, hR⟩) n sg_X6_redoActs_2 2 (ok_X6_redoActs_2 ⟨hn, hcl, C, hR⟩) L st K h ce sl
set_option maxHeartbeats 4000000 in
set_option maxRecDepth 100000 in
theorem v_X6_redoActs {G : jGt} {Q : jPost} {K : List jK} {h : jM} {f : Int32} (hT : jX K ∧ (∃ (k cnt : Nat) (s : aS) (v : Nat → Int32), k ≤ cnt ∧ cnt ≤ 6 ∧ h 0 7 = nI cnt ∧ f = nI (cnt - k) ∧ aVal (vQ h) s cnt ∧ (∀ j, j < k → aBOK (vQ h) (aBks (vQ h) s cnt j) (cnt - 1 - j)) ∧ vS h = aBks (vQ h) s cnt k ∧ h 3 = vL (aBPl (vQ h) s cnt) v cnt k ∧ ∀ g, vS g = s → g 3 = v → vQ g = vQ h → frS h g → Q none K g)) (H0 : jHd cd_X6_redoActs G Q sg_X6_redoActs_0 0) (H2 : jHd cd_X6_redoActs G Q sg_X6_redoActs_2 2) : G 0 [some (.ref 0), some (.int f), none] [] K h 0 0 := by
  obtain ⟨hX, k, cnt, s, v, hMc, hc6, hcnt, rfl, hv, hall, hS0, h30, hT⟩ := hT
  have loop : ∀ k, (∀ j, j < k → aBOK (vQ h) (aBks (vQ h) s cnt j) (cnt - 1 - j)) → k ≤ cnt → ∀ (g : jM) (x1 : Int32), vS g = aBks (vQ h) s cnt k → g 3 = vL (aBPl (vQ h) s cnt) v cnt k → vQ g = vQ h → frS h g → G 2 [some (.ref 0), some (.int x1), some (.int (nI (cnt - k)))] [] K g 0 0 := by
    intro k
    induction k with
    | zero =>
      intro hall hk g x1 hS h3 hQ hfr
      have e0 : g 0 7 = nI cnt := by rw [hfr 0 (by decide) (by decide) (by decide), hcnt]
      refine H2 60 _ _ _ _ _ _ ?_
      simp only [sg_X6_redoActs_0, sg_X6_redoActs_2, sg_X6_redoActs_27, cd_X6_redoActs, jwp, o_ic, o_lc, o_iload, o_lload, o_aload, o_istore, o_lstore, o_astore, o_iinc, o_pop, o_dup, o_dup2, o_iadd, o_isub, o_imul, o_iand, o_ior, o_ishl, o_ladd, o_lmul, o_land, o_lor, o_idiv, o_irem, o_ineg, o_i2l, o_l2i, o_i2b, o_i2s, o_lushr, o_lshr, o_lshl, o_lcmp, o_ifeq, o_ifne, o_iflt, o_ifge, o_ifgt, o_ifle, o_iceq, o_icne, o_iclt, o_icge, o_icgt, o_icle, o_goto, o_tsw, jsw, o_lsw, jlk, o_getf, o_putf, o_putz, o_iald, o_zald, o_iast, o_zast, o_aald, o_alen, o_gets, o_zld, o_zlen, o_cpy, o_call, o_callV, o_ireti, o_iretz, o_lret, o_vret, jg, js, jkp, jkill, jsp, jcs, jfw, jov, Value.category, Option.toList_some, Option.toList_none, List.nil_append, List.cons_append, List.append_nil, Nat.reduceAdd, true_and, and_true, jb0, jb01, jb1, jem, true_or, or_true, Classical.not_not, forall_const, List.length_cons, List.length_nil, Nat.reduceLeDiff, Nat.zero_le, Nat.reduceLT, hX, kx_0_0 hX, kx_0_1 hX, kx_0_2 hX, kx_0_3 hX, kx_0_4 hX, kx_0_5 hX, kx_0_6 hX, kx_0_7 hX, kx_0_8 hX, kxo_0 hX, kx_1_0 hX, kx_1_1 hX, kx_1_2 hX, kx_1_3 hX, kxo_1 hX, kx_4_0 hX, kx_4_1 hX, kx_4_2 hX, kxo_4 hX, kx_19_0 hX, kx_19_1 hX, kx_19_2 hX, kx_19_3 hX, kx_19_4 hX, kxo_19 hX, kx_24_0 hX, kx_24_1 hX, kx_24_2 hX, kx_24_3 hX, kx_24_4 hX, kx_24_5 hX, kx_24_6 hX, kxo_24 hX, kxa_2 hX, kxa_3 hX, kxa_6 hX, kxa_7 hX, kxa_8 hX, kxa_9 hX, kxa_10 hX, kxa_18 hX, kxa_20 hX, kxa_21 hX, kxa_22 hX, kxa_23 hX, kxa_26 hX, kxa_27 hX, kxr_5 hX, kxr_11 hX, kxr_28 hX, T_X6_act]
      rw [e0]
      exact ⟨fun _ => hT g hS h3 hQ hfr, fun q => absurd (Int32.le_refl _) q⟩
    | succ k ih =>
      intro hall hk g x1 hS h3 hQ hfr
      have e0 : g 0 7 = nI cnt := by rw [hfr 0 (by decide) (by decide) (by decide), hcnt]
      have hk6 : cnt - (k + 1) < 6 := by omega
      have ek : cnt - (k + 1) = cnt - 1 - k := by omega
      have hvk := aVal_bks hv k (by omega) (fun j hj => hall j (by omega))
      have hvk1 := aVal_bks hv (k + 1) (by omega) (fun j hj => hall j (by omega))
      have hvg : aVal (vQ g) (vS g) cnt := by rw [hQ, hS]; exact hvk1
      obtain ⟨b1, b2, b3⟩ := aAct_back hvk.1 (hvk.2 (cnt - 1 - k) (by omega)) (hall k (by omega))
      have hS' : vS g = aBack (vQ h) (aBks (vQ h) s cnt k) (cnt - 1 - k) := hS
      have hb : aOK (vQ g) (vS g) (cnt - (k + 1)) := by rw [hQ, hS', ek]; exact b1
      have hon : onF (cXn g (12 + (cnt - (k + 1)))) (cYn g (12 + (cnt - (k + 1)))) := by rw [v_Xn hvg.1 (hvg.2 _ (by omega)) hk6, v_Yn hvg.1 (hvg.2 _ (by omega)) hk6]; exact hb
      have hk31 : cnt - (k + 1) < 2147483648 := by omega
      refine H2 60 _ _ _ _ _ _ ?_
      simp only [sg_X6_redoActs_0, sg_X6_redoActs_2, sg_X6_redoActs_27, cd_X6_redoActs, jwp, o_ic, o_lc, o_iload, o_lload, o_aload, o_istore, o_lstore, o_astore, o_iinc, o_pop, o_dup, o_dup2, o_iadd, o_isub, o_imul, o_iand, o_ior, o_ishl, o_ladd, o_lmul, o_land, o_lor, o_idiv, o_irem, o_ineg, o_i2l, o_l2i, o_i2b, o_i2s, o_lushr, o_lshr, o_lshl, o_lcmp, o_ifeq, o_ifne, o_iflt, o_ifge, o_ifgt, o_ifle, o_iceq, o_icne, o_iclt, o_icge, o_icgt, o_icle, o_goto, o_tsw, jsw, o_lsw, jlk, o_getf, o_putf, o_putz, o_iald, o_zald, o_iast, o_zast, o_aald, o_alen, o_gets, o_zld, o_zlen, o_cpy, o_call, o_callV, o_ireti, o_iretz, o_lret, o_vret, jg, js, jkp, jkill, jsp, jcs, jfw, jov, Value.category, Option.toList_some, Option.toList_none, List.nil_append, List.cons_append, List.append_nil, Nat.reduceAdd, true_and, and_true, jb0, jb01, jb1, jem, true_or, or_true, Classical.not_not, forall_const, List.length_cons, List.length_nil, Nat.reduceLeDiff, Nat.zero_le, Nat.reduceLT, hX, kx_0_0 hX, kx_0_1 hX, kx_0_2 hX, kx_0_3 hX, kx_0_4 hX, kx_0_5 hX, kx_0_6 hX, kx_0_7 hX, kx_0_8 hX, kxo_0 hX, kx_1_0 hX, kx_1_1 hX, kx_1_2 hX, kx_1_3 hX, kxo_1 hX, kx_4_0 hX, kx_4_1 hX, kx_4_2 hX, kxo_4 hX, kx_19_0 hX, kx_19_1 hX, kx_19_2 hX, kx_19_3 hX, kx_19_4 hX, kxo_19 hX, kx_24_0 hX, kx_24_1 hX, kx_24_2 hX, kx_24_3 hX, kx_24_4 hX, kx_24_5 hX, kx_24_6 hX, kxo_24 hX, kxa_2 hX, kxa_3 hX, kxa_6 hX, kxa_7 hX, kxa_8 hX, kxa_9 hX, kxa_10 hX, kxa_18 hX, kxa_20 hX, kxa_21 hX, kxa_22 hX, kxa_23 hX, kxa_26 hX, kxa_27 hX, kxr_5 hX, kxr_11 hX, kxr_28 hX, T_X6_act, nI_clamp hk31, kx_ants hk6]
      rw [e0]
      refine ⟨fun q => absurd ((nI_leI (by omega) (by omega)).mp q) (by omega), fun _ => ⟨vp_in_nI hk6 (by decide), ⟨_, hk6, rfl⟩, vVal_fl hvg, vVal_an hvg (by omega) hk6, fun _ => ?_, fun q => absurd hon q⟩⟩
      rw [nI_1, show cnt - (k + 1) + 1 = cnt - k by omega]
      refine ih (fun j hj => hall j (by omega)) (by omega) _ _ ?_ ?_ ?_ ?_
      · rw [vS_act hvg.1 (hvg.2 _ (by omega)) hk6, hQ, hS', ek, b3]
      · have e : aP (vS g) (cnt - (k + 1)) = aBPl (vQ h) s cnt (cnt - 1 - k) := by
          rw [hS', ek, b2]
          unfold aBPl
          rw [show cnt - 1 - (cnt - 1 - k) = k by omega]
        rw [act_3 g hk6, e, h3, vL_undo]
      · rw [vQ_act g hk6, hQ]
      · exact frS_tr hfr (act_fr g hk6)
  refine H0 60 _ _ _ _ _ _ ?_
  simp only [sg_X6_redoActs_0, sg_X6_redoActs_2, sg_X6_redoActs_27, cd_X6_redoActs, jwp, o_ic, o_lc, o_iload, o_lload, o_aload, o_istore, o_lstore, o_astore, o_iinc, o_pop, o_dup, o_dup2, o_iadd, o_isub, o_imul, o_iand, o_ior, o_ishl, o_ladd, o_lmul, o_land, o_lor, o_idiv, o_irem, o_ineg, o_i2l, o_l2i, o_i2b, o_i2s, o_lushr, o_lshr, o_lshl, o_lcmp, o_ifeq, o_ifne, o_iflt, o_ifge, o_ifgt, o_ifle, o_iceq, o_icne, o_iclt, o_icge, o_icgt, o_icle, o_goto, o_tsw, jsw, o_lsw, jlk, o_getf, o_putf, o_putz, o_iald, o_zald, o_iast, o_zast, o_aald, o_alen, o_gets, o_zld, o_zlen, o_cpy, o_call, o_callV, o_ireti, o_iretz, o_lret, o_vret, jg, js, jkp, jkill, jsp, jcs, jfw, jov, Value.category, Option.toList_some, Option.toList_none, List.nil_append, List.cons_append, List.append_nil, Nat.reduceAdd, true_and, and_true, jb0, jb01, jb1, jem, true_or, or_true, Classical.not_not, forall_const, List.length_cons, List.length_nil, Nat.reduceLeDiff, Nat.zero_le, Nat.reduceLT, hX, kx_0_0 hX, kx_0_1 hX, kx_0_2 hX, kx_0_3 hX, kx_0_4 hX, kx_0_5 hX, kx_0_6 hX, kx_0_7 hX, kx_0_8 hX, kxo_0 hX, kx_1_0 hX, kx_1_1 hX, kx_1_2 hX, kx_1_3 hX, kxo_1 hX, kx_4_0 hX, kx_4_1 hX, kx_4_2 hX, kxo_4 hX, kx_19_0 hX, kx_19_1 hX, kx_19_2 hX, kx_19_3 hX, kx_19_4 hX, kxo_19 hX, kx_24_0 hX, kx_24_1 hX, kx_24_2 hX, kx_24_3 hX, kx_24_4 hX, kx_24_5 hX, kx_24_6 hX, kxo_24 hX, kxa_2 hX, kxa_3 hX, kxa_6 hX, kxa_7 hX, kxa_8 hX, kxa_9 hX, kxa_10 hX, kxa_18 hX, kxa_20 hX, kxa_21 hX, kxa_22 hX, kxa_23 hX, kxa_26 hX, kxa_27 hX, kxr_5 hX, kxr_11 hX, kxr_28 hX]
  exact loop k hall hMc h _ hS0 h30 rfl (frS_rf h)
theorem m_X6_redoActs (l : Launch) : jHolds vwCl l yX6_redoActs wsX6_redoActs 3 69 0 0 T_X6_redoActs := by
  refine m_X6_redoActs_of l (fun G Q vs K h H0 H2 hT => ?_)
  unfold T_X6_redoActs at hT
  split at hT
  · obtain ⟨rfl, hT⟩ := hT
    exact ⟨Nat.le_of_ble_eq_true rfl, v_X6_redoActs hT H0 H2⟩
  · exact hT.elim

/-! X6_antsWith -/
/-- the bits of those of ants 0 .. j - 1 that are where ant i is -/
def jbit (j : Nat) : Int32 := (1 : Int32) <<< (nI j &&& 31)
def jwho (X Y : Nat → Int32) (i : Nat) : Nat → Int32
  | 0 => 0
  | j + 1 => if X j = X i ∧ Y j = Y i then jwho X Y i j ||| jbit j else jwho X Y i j
theorem jwho_s {X Y : Nat → Int32} {i j : Nat} (h : X j = X i ∧ Y j = Y i) : jwho X Y i (j + 1) = jwho X Y i j ||| jbit j := if_pos h
theorem jwho_n {X Y : Nat → Int32} {i j : Nat} (h : ¬ (X j = X i ∧ Y j = Y i)) : jwho X Y i (j + 1) = jwho X Y i j := if_neg h
def T_X6_antsWith : jT := fun vs K h Q => match vs with
  | [.ref r0, .int i] => r0 = 0 ∧ (jX K ∧ (∃ I cnt : Nat, I < 6 ∧ i = nI I ∧ cnt ≤ 6 ∧ h 0 7 = nI cnt ∧ Q (some (.int (jwho (vX h 0) (vX h 1) I cnt))) K h))
  | _ => False
def sg_X6_antsWith_0 : jS := [(o_ic (0), 1), (o_istore 2, 1), (o_ic (0), 1), (o_istore 3, 1)]
def sg_X6_antsWith_4 : jS := [(o_iload 3, 1), (o_aload 0, 1), (o_getf 6 7, 3), (o_icge 66, 3), (o_aload 0, 1), (o_getf 6 2, 3), (o_iload 3, 1), (o_aald 2, 1), (o_getf 0 0, 3), (o_aload 0, 1), (o_getf 6 2, 3), (o_iload 1, 1), (o_aald 2, 1), (o_getf 0 0, 3), (o_icne 60, 3), (o_aload 0, 1), (o_getf 6 2, 3), (o_iload 3, 1), (o_aald 2, 1), (o_getf 0 1, 3), (o_aload 0, 1), (o_getf 6 2, 3), (o_iload 1, 1), (o_aald 2, 1), (o_getf 0 1, 3), (o_icne 60, 3), (o_iload 2, 1), (o_ic (1), 1), (o_iload 3, 1), (o_ishl, 1), (o_ior, 1), (o_istore 2, 1), (o_iinc 3 (1), 3), (o_goto 4, 3)]
def sg_X6_antsWith_60 : jS := [(o_iinc 3 (1), 3), (o_goto 4, 3)]
def sg_X6_antsWith_66 : jS := [(o_iload 2, 1), (o_ireti, 1)]
def cd_X6_antsWith : Nat → jS := fun t => match t with
  | 60 => sg_X6_antsWith_60
  | 66 => sg_X6_antsWith_66
  | _ => []
theorem wl_X6_antsWith_25 : Cond.fieldLink RX6 25 (TX6 2).1 (TX6 2).2.1 (TX6 2).2.2.1 ∈ wsX6_antsWith := by decide +kernel
theorem wl_X6_antsWith_67 : Cond.fieldLink RX6 67 (TX6 7).1 (TX6 7).2.1 (TX6 7).2.2.1 ∈ wsX6_antsWith := by decide +kernel
theorem wl_X6_antsWith_114 : Cond.fieldLink RX6 114 (TX0 0).1 (TX0 0).2.1 (TX0 0).2.2.1 ∈ wsX6_antsWith := by decide +kernel
theorem wl_X6_antsWith_117 : Cond.fieldLink RX6 117 (TX0 1).1 (TX0 1).2.1 (TX0 1).2.2.1 ∈ wsX6_antsWith := by decide +kernel
theorem wi_X6_antsWith_X0 : ∀ w ∈ u_ws RX0 TX0 4, w ∈ wsX6_antsWith := by decide +kernel
theorem wi_X6_antsWith_X6 : ∀ w ∈ u_ws RX6 TX6 9, w ∈ wsX6_antsWith := by decide +kernel
def E_X6_antsWith (Γ : jΓ) (Q : jPost) : Prop := Γ.2.2.2.2.2.2.2.2.2.2.1 = 4 ∧ Γ.2.2.2.2.2.2.2.2.2.2.2.1 = vwCl ∧ jC Γ cX6_antsWith RX6 "antsWith" (some .int) wsX6_antsWith 0 0 0 0 ∧ jR Γ Q 0 0
theorem oo_X6_antsWith_0 {Γ : jΓ} {Q : jPost} (E : E_X6_antsWith Γ Q) : jSA Γ Q 0 (o_ic (0)) 1 := so_iconst E.2.2.1 rfl dX6_antsWith_0
theorem oo_X6_antsWith_1 {Γ : jΓ} {Q : jPost} (E : E_X6_antsWith Γ Q) : jSA Γ Q 1 (o_istore 2) 1 := so_istore_n E.2.2.1 rfl (by rw [E.1]; decide) dX6_antsWith_1
theorem oo_X6_antsWith_2 {Γ : jΓ} {Q : jPost} (E : E_X6_antsWith Γ Q) : jSA Γ Q 2 (o_ic (0)) 1 := so_iconst E.2.2.1 rfl dX6_antsWith_2
theorem oo_X6_antsWith_3 {Γ : jΓ} {Q : jPost} (E : E_X6_antsWith Γ Q) : jSA Γ Q 3 (o_istore 3) 1 := so_istore_n E.2.2.1 rfl (by rw [E.1]; decide) dX6_antsWith_3
theorem oo_X6_antsWith_4 {Γ : jΓ} {Q : jPost} (E : E_X6_antsWith Γ Q) : jSA Γ Q 4 (o_iload 3) 1 := so_iload_n E.2.2.1 rfl dX6_antsWith_4
theorem oo_X6_antsWith_5 {Γ : jΓ} {Q : jPost} (E : E_X6_antsWith Γ Q) : jSA Γ Q 5 (o_aload 0) 1 := so_aload_n E.2.2.1 rfl dX6_antsWith_5
theorem oo_X6_antsWith_6 {Γ : jΓ} {Q : jPost} (E : E_X6_antsWith Γ Q) : jSA Γ Q 6 (o_getf 6 7) 3 := so_getf (ci := 6) E.2.2.1 wi_X6_antsWith_X6 (by rw [E.2.1]; rfl) 7 (by decide) wl_X6_antsWith_67 dX6_antsWith_6
theorem oo_X6_antsWith_9 {Γ : jΓ} {Q : jPost} (E : E_X6_antsWith Γ Q) : jSA Γ Q 9 (o_icge 66) 3 := so_icge E.2.2.1 (by decide) dX6_antsWith_9
theorem oo_X6_antsWith_12 {Γ : jΓ} {Q : jPost} (E : E_X6_antsWith Γ Q) : jSA Γ Q 12 (o_aload 0) 1 := so_aload_n E.2.2.1 rfl dX6_antsWith_12
theorem oo_X6_antsWith_13 {Γ : jΓ} {Q : jPost} (E : E_X6_antsWith Γ Q) : jSA Γ Q 13 (o_getf 6 2) 3 := so_getf (ci := 6) E.2.2.1 wi_X6_antsWith_X6 (by rw [E.2.1]; rfl) 2 (by decide) wl_X6_antsWith_25 dX6_antsWith_13
theorem oo_X6_antsWith_16 {Γ : jΓ} {Q : jPost} (E : E_X6_antsWith Γ Q) : jSA Γ Q 16 (o_iload 3) 1 := so_iload_n E.2.2.1 rfl dX6_antsWith_16
theorem oo_X6_antsWith_17 {Γ : jΓ} {Q : jPost} (E : E_X6_antsWith Γ Q) : jSA Γ Q 17 (o_aald 2) 1 := so_aald2 E.2.2.1 dX6_antsWith_17
theorem oo_X6_antsWith_18 {Γ : jΓ} {Q : jPost} (E : E_X6_antsWith Γ Q) : jSA Γ Q 18 (o_getf 0 0) 3 := so_getf (ci := 0) E.2.2.1 wi_X6_antsWith_X0 (by rw [E.2.1]; rfl) 0 (by decide) wl_X6_antsWith_114 dX6_antsWith_18
theorem oo_X6_antsWith_21 {Γ : jΓ} {Q : jPost} (E : E_X6_antsWith Γ Q) : jSA Γ Q 21 (o_aload 0) 1 := so_aload_n E.2.2.1 rfl dX6_antsWith_21
theorem oo_X6_antsWith_22 {Γ : jΓ} {Q : jPost} (E : E_X6_antsWith Γ Q) : jSA Γ Q 22 (o_getf 6 2) 3 := so_getf (ci := 6) E.2.2.1 wi_X6_antsWith_X6 (by rw [E.2.1]; rfl) 2 (by decide) wl_X6_antsWith_25 dX6_antsWith_22
theorem oo_X6_antsWith_25 {Γ : jΓ} {Q : jPost} (E : E_X6_antsWith Γ Q) : jSA Γ Q 25 (o_iload 1) 1 := so_iload_n E.2.2.1 rfl dX6_antsWith_25
theorem oo_X6_antsWith_26 {Γ : jΓ} {Q : jPost} (E : E_X6_antsWith Γ Q) : jSA Γ Q 26 (o_aald 2) 1 := so_aald2 E.2.2.1 dX6_antsWith_26
theorem oo_X6_antsWith_27 {Γ : jΓ} {Q : jPost} (E : E_X6_antsWith Γ Q) : jSA Γ Q 27 (o_getf 0 0) 3 := so_getf (ci := 0) E.2.2.1 wi_X6_antsWith_X0 (by rw [E.2.1]; rfl) 0 (by decide) wl_X6_antsWith_114 dX6_antsWith_27
theorem oo_X6_antsWith_30 {Γ : jΓ} {Q : jPost} (E : E_X6_antsWith Γ Q) : jSA Γ Q 30 (o_icne 60) 3 := so_icne E.2.2.1 (by decide) dX6_antsWith_30
theorem oo_X6_antsWith_33 {Γ : jΓ} {Q : jPost} (E : E_X6_antsWith Γ Q) : jSA Γ Q 33 (o_aload 0) 1 := so_aload_n E.2.2.1 rfl dX6_antsWith_33
theorem oo_X6_antsWith_34 {Γ : jΓ} {Q : jPost} (E : E_X6_antsWith Γ Q) : jSA Γ Q 34 (o_getf 6 2) 3 := so_getf (ci := 6) E.2.2.1 wi_X6_antsWith_X6 (by rw [E.2.1]; rfl) 2 (by decide) wl_X6_antsWith_25 dX6_antsWith_34
theorem oo_X6_antsWith_37 {Γ : jΓ} {Q : jPost} (E : E_X6_antsWith Γ Q) : jSA Γ Q 37 (o_iload 3) 1 := so_iload_n E.2.2.1 rfl dX6_antsWith_37
theorem oo_X6_antsWith_38 {Γ : jΓ} {Q : jPost} (E : E_X6_antsWith Γ Q) : jSA Γ Q 38 (o_aald 2) 1 := so_aald2 E.2.2.1 dX6_antsWith_38
theorem oo_X6_antsWith_39 {Γ : jΓ} {Q : jPost} (E : E_X6_antsWith Γ Q) : jSA Γ Q 39 (o_getf 0 1) 3 := so_getf (ci := 0) E.2.2.1 wi_X6_antsWith_X0 (by rw [E.2.1]; rfl) 1 (by decide) wl_X6_antsWith_117 dX6_antsWith_39
theorem oo_X6_antsWith_42 {Γ : jΓ} {Q : jPost} (E : E_X6_antsWith Γ Q) : jSA Γ Q 42 (o_aload 0) 1 := so_aload_n E.2.2.1 rfl dX6_antsWith_42
theorem oo_X6_antsWith_43 {Γ : jΓ} {Q : jPost} (E : E_X6_antsWith Γ Q) : jSA Γ Q 43 (o_getf 6 2) 3 := so_getf (ci := 6) E.2.2.1 wi_X6_antsWith_X6 (by rw [E.2.1]; rfl) 2 (by decide) wl_X6_antsWith_25 dX6_antsWith_43
theorem oo_X6_antsWith_46 {Γ : jΓ} {Q : jPost} (E : E_X6_antsWith Γ Q) : jSA Γ Q 46 (o_iload 1) 1 := so_iload_n E.2.2.1 rfl dX6_antsWith_46
theorem oo_X6_antsWith_47 {Γ : jΓ} {Q : jPost} (E : E_X6_antsWith Γ Q) : jSA Γ Q 47 (o_aald 2) 1 := so_aald2 E.2.2.1 dX6_antsWith_47
theorem oo_X6_antsWith_48 {Γ : jΓ} {Q : jPost} (E : E_X6_antsWith Γ Q) : jSA Γ Q 48 (o_getf 0 1) 3 := so_getf (ci := 0) E.2.2.1 wi_X6_antsWith_X0 (by rw [E.2.1]; rfl) 1 (by decide) wl_X6_antsWith_117 dX6_antsWith_48
theorem oo_X6_antsWith_51 {Γ : jΓ} {Q : jPost} (E : E_X6_antsWith Γ Q) : jSA Γ Q 51 (o_icne 60) 3 := so_icne E.2.2.1 (by decide) dX6_antsWith_51
theorem oo_X6_antsWith_54 {Γ : jΓ} {Q : jPost} (E : E_X6_antsWith Γ Q) : jSA Γ Q 54 (o_iload 2) 1 := so_iload_n E.2.2.1 rfl dX6_antsWith_54
theorem oo_X6_antsWith_55 {Γ : jΓ} {Q : jPost} (E : E_X6_antsWith Γ Q) : jSA Γ Q 55 (o_ic (1)) 1 := so_iconst E.2.2.1 rfl dX6_antsWith_55
theorem oo_X6_antsWith_56 {Γ : jΓ} {Q : jPost} (E : E_X6_antsWith Γ Q) : jSA Γ Q 56 (o_iload 3) 1 := so_iload_n E.2.2.1 rfl dX6_antsWith_56
theorem oo_X6_antsWith_57 {Γ : jΓ} {Q : jPost} (E : E_X6_antsWith Γ Q) : jSA Γ Q 57 (o_ishl) 1 := so_ishl E.2.2.1 dX6_antsWith_57
theorem oo_X6_antsWith_58 {Γ : jΓ} {Q : jPost} (E : E_X6_antsWith Γ Q) : jSA Γ Q 58 (o_ior) 1 := so_ior E.2.2.1 dX6_antsWith_58
theorem oo_X6_antsWith_59 {Γ : jΓ} {Q : jPost} (E : E_X6_antsWith Γ Q) : jSA Γ Q 59 (o_istore 2) 1 := so_istore_n E.2.2.1 rfl (by rw [E.1]; decide) dX6_antsWith_59
theorem oo_X6_antsWith_60 {Γ : jΓ} {Q : jPost} (E : E_X6_antsWith Γ Q) : jSA Γ Q 60 (o_iinc 3 (1)) 3 := so_iinc E.2.2.1 rfl (by rw [E.1]; decide) dX6_antsWith_60
theorem oo_X6_antsWith_63 {Γ : jΓ} {Q : jPost} (E : E_X6_antsWith Γ Q) : jSA Γ Q 63 (o_goto 4) 3 := so_goto E.2.2.1 (by decide) dX6_antsWith_63
theorem oo_X6_antsWith_66 {Γ : jΓ} {Q : jPost} (E : E_X6_antsWith Γ Q) : jSA Γ Q 66 (o_iload 2) 1 := so_iload_n E.2.2.1 rfl dX6_antsWith_66
theorem oo_X6_antsWith_67 {Γ : jΓ} {Q : jPost} (E : E_X6_antsWith Γ Q) : jSA Γ Q 67 (o_ireti) 1 := so_ireti E.2.2.1 E.2.2.2 dX6_antsWith_67
theorem ok_X6_antsWith_0 {Γ : jΓ} {Q : jPost} (E : E_X6_antsWith Γ Q) : jSS Γ Q 0 sg_X6_antsWith_0 := ⟨oo_X6_antsWith_0 E, oo_X6_antsWith_1 E, oo_X6_antsWith_2 E, oo_X6_antsWith_3 E, trivial⟩
theorem ok_X6_antsWith_4 {Γ : jΓ} {Q : jPost} (E : E_X6_antsWith Γ Q) : jSS Γ Q 4 sg_X6_antsWith_4 := ⟨oo_X6_antsWith_4 E, oo_X6_antsWith_5 E, oo_X6_antsWith_6 E, oo_X6_antsWith_9 E, oo_X6_antsWith_12 E, oo_X6_antsWith_13 E, oo_X6_antsWith_16 E, oo_X6_antsWith_17 E, oo_X6_antsWith_18 E, oo_X6_antsWith_21 E, oo_X6_antsWith_22 E, oo_X6_antsWith_25 E, oo_X6_antsWith_26 E, oo_X6_antsWith_27 E, oo_X6_antsWith_30 E, oo_X6_antsWith_33 E, oo_X6_antsWith_34 E, oo_X6_antsWith_37 E, oo_X6_antsWith_38 E, oo_X6_antsWith_39 E, oo_X6_antsWith_42 E, oo_X6_antsWith_43 E, oo_X6_antsWith_46 E, oo_X6_antsWith_47 E, oo_X6_antsWith_48 E, oo_X6_antsWith_51 E, oo_X6_antsWith_54 E, oo_X6_antsWith_55 E, oo_X6_antsWith_56 E, oo_X6_antsWith_57 E, oo_X6_antsWith_58 E, oo_X6_antsWith_59 E, oo_X6_antsWith_60 E, oo_X6_antsWith_63 E, trivial⟩
theorem ok_X6_antsWith_60 {Γ : jΓ} {Q : jPost} (E : E_X6_antsWith Γ Q) : jSS Γ Q 60 sg_X6_antsWith_60 := ⟨oo_X6_antsWith_60 E, oo_X6_antsWith_63 E, trivial⟩
theorem ok_X6_antsWith_66 {Γ : jΓ} {Q : jPost} (E : E_X6_antsWith Γ Q) : jSS Γ Q 66 sg_X6_antsWith_66 := ⟨oo_X6_antsWith_66 E, oo_X6_antsWith_67 E, trivial⟩
theorem okc_X6_antsWith {Γ : jΓ} {Q : jPost} (E : E_X6_antsWith Γ Q) (t : Nat) : jSS Γ Q t (cd_X6_antsWith t) := by
  unfold cd_X6_antsWith
  split
  · exact ok_X6_antsWith_60 E
  · exact ok_X6_antsWith_66 E
  · trivial
theorem m_X6_antsWith_of (l : Launch) (hv : ∀ (G : jGt) (Q : jPost) (vs : List Value) (K : List jK) (h : jM), jHd cd_X6_antsWith G Q sg_X6_antsWith_0 0 → jHd cd_X6_antsWith G Q sg_X6_antsWith_4 4 → T_X6_antsWith vs K h Q → (lg_sl vs).length ≤ 4 ∧ G 0 (jinit vs 4) [] K h 0 0) : jHolds vwCl l yX6_antsWith wsX6_antsWith 0 0 0 0 T_X6_antsWith := by
  refine jMet (cc := cX6_antsWith) (maxL := 4) (rt := (some .int)) (by decide +kernel) rfl (fun Γ Q vs K h hl hn hcl C hR hT => hv (jG Γ) Q vs K h ?_ ?_ hT)
  · exact fun n L st K h ce sl => jwp_ok (okc_X6_antsWith ⟨hn, hcl, C, hR⟩) n sg_X6_antsWith_0 0 (ok_X6_antsWith_0 ⟨hn, hcl, C, hR⟩) L st K h ce sl
  · exact fun n L st K h ce sl => jwp_ok (okc_X6_antsWith ⟨hn, hcl, C, hR⟩) n sg_X6_antsWith_4 4 (ok_X6_antsWith_4 ⟨hn, hcl, C, hR⟩) L st K h ce sl
set_option maxHeartbeats 4000000 in
set_option maxRecDepth 100000 in
theorem v_X6_antsWith {G : jGt} {Q : jPost} {K : List jK} {h : jM} {i : Int32} (hT : jX K ∧ (∃ I cnt : Nat, I < 6 ∧ i = nI I ∧ cnt ≤ 6 ∧ h 0 7 = nI cnt ∧ Q (some (.int (jwho (vX h 0) (vX h 1) I cnt))) K h)) (H0 : jHd cd_X6_antsWith G Q sg_X6_antsWith_0 0) (H4 : jHd cd_X6_antsWith G Q sg_X6_antsWith_4 4) : G 0 [some (.ref 0), some (.int i), none, none] [] K h 0 0 := by
  obtain ⟨hX, I, cnt, hI, rfl, hc6, hcnt, hT⟩ := hT
  have haI : isAnt (12 + I) := by unfold isAnt; omega
  have hI31 : I < 2147483648 := by omega
  have loop : ∀ n j, j + n = cnt → G 4 [some (.ref 0), some (.int (nI I)), some (.int (jwho (vX h 0) (vX h 1) I j)), some (.int (nI j))] [] K h 0 0 := by
    intro n
    induction n with
    | zero =>
      intro j hj
      have : j = cnt := by omega
      subst this
      refine H4 60 _ _ _ _ _ _ ?_
      simp only [sg_X6_antsWith_0, sg_X6_antsWith_4, sg_X6_antsWith_60, sg_X6_antsWith_66, cd_X6_antsWith, jwp, o_ic, o_lc, o_iload, o_lload, o_aload, o_istore, o_lstore, o_astore, o_iinc, o_pop, o_dup, o_dup2, o_iadd, o_isub, o_imul, o_iand, o_ior, o_ishl, o_ladd, o_lmul, o_land, o_lor, o_idiv, o_irem, o_ineg, o_i2l, o_l2i, o_i2b, o_i2s, o_lushr, o_lshr, o_lshl, o_lcmp, o_ifeq, o_ifne, o_iflt, o_ifge, o_ifgt, o_ifle, o_iceq, o_icne, o_iclt, o_icge, o_icgt, o_icle, o_goto, o_tsw, jsw, o_lsw, jlk, o_getf, o_putf, o_putz, o_iald, o_zald, o_iast, o_zast, o_aald, o_alen, o_gets, o_zld, o_zlen, o_cpy, o_call, o_callV, o_ireti, o_iretz, o_lret, o_vret, jg, js, jkp, jkill, jsp, jcs, jfw, jov, Value.category, Option.toList_some, Option.toList_none, List.nil_append, List.cons_append, List.append_nil, Nat.reduceAdd, true_and, and_true, jb0, jb01, jb1, jem, true_or, or_true, Classical.not_not, forall_const, List.length_cons, List.length_nil, Nat.reduceLeDiff, Nat.zero_le, Nat.reduceLT, hX, kx_0_0 hX, kx_0_1 hX, kx_0_2 hX, kx_0_3 hX, kx_0_4 hX, kx_0_5 hX, kx_0_6 hX, kx_0_7 hX, kx_0_8 hX, kxo_0 hX, kx_1_0 hX, kx_1_1 hX, kx_1_2 hX, kx_1_3 hX, kxo_1 hX, kx_4_0 hX, kx_4_1 hX, kx_4_2 hX, kxo_4 hX, kx_19_0 hX, kx_19_1 hX, kx_19_2 hX, kx_19_3 hX, kx_19_4 hX, kxo_19 hX, kx_24_0 hX, kx_24_1 hX, kx_24_2 hX, kx_24_3 hX, kx_24_4 hX, kx_24_5 hX, kx_24_6 hX, kxo_24 hX, kxa_2 hX, kxa_3 hX, kxa_6 hX, kxa_7 hX, kxa_8 hX, kxa_9 hX, kxa_10 hX, kxa_18 hX, kxa_20 hX, kxa_21 hX, kxa_22 hX, kxa_23 hX, kxa_26 hX, kxa_27 hX, kxr_5 hX, kxr_11 hX, kxr_28 hX]
      rw [hcnt]
      exact ⟨fun _ => hT, fun q => absurd (Int32.le_refl _) q⟩
    | succ n ih =>
      intro j hj
      have h2 := ih (j + 1) (by omega)
      have hj6 : j < 6 := by omega
      have hj31 : j < 2147483648 := by omega
      have haj : isAnt (12 + j) := by unfold isAnt; omega
      refine H4 60 _ _ _ _ _ _ ?_
      simp only [sg_X6_antsWith_0, sg_X6_antsWith_4, sg_X6_antsWith_60, sg_X6_antsWith_66, cd_X6_antsWith, jwp, o_ic, o_lc, o_iload, o_lload, o_aload, o_istore, o_lstore, o_astore, o_iinc, o_pop, o_dup, o_dup2, o_iadd, o_isub, o_imul, o_iand, o_ior, o_ishl, o_ladd, o_lmul, o_land, o_lor, o_idiv, o_irem, o_ineg, o_i2l, o_l2i, o_i2b, o_i2s, o_lushr, o_lshr, o_lshl, o_lcmp, o_ifeq, o_ifne, o_iflt, o_ifge, o_ifgt, o_ifle, o_iceq, o_icne, o_iclt, o_icge, o_icgt, o_icle, o_goto, o_tsw, jsw, o_lsw, jlk, o_getf, o_putf, o_putz, o_iald, o_zald, o_iast, o_zast, o_aald, o_alen, o_gets, o_zld, o_zlen, o_cpy, o_call, o_callV, o_ireti, o_iretz, o_lret, o_vret, jg, js, jkp, jkill, jsp, jcs, jfw, jov, Value.category, Option.toList_some, Option.toList_none, List.nil_append, List.cons_append, List.append_nil, Nat.reduceAdd, true_and, and_true, jb0, jb01, jb1, jem, true_or, or_true, Classical.not_not, forall_const, List.length_cons, List.length_nil, Nat.reduceLeDiff, Nat.zero_le, Nat.reduceLT, hX, kx_0_0 hX, kx_0_1 hX, kx_0_2 hX, kx_0_3 hX, kx_0_4 hX, kx_0_5 hX, kx_0_6 hX, kx_0_7 hX, kx_0_8 hX, kxo_0 hX, kx_1_0 hX, kx_1_1 hX, kx_1_2 hX, kx_1_3 hX, kxo_1 hX, kx_4_0 hX, kx_4_1 hX, kx_4_2 hX, kxo_4 hX, kx_19_0 hX, kx_19_1 hX, kx_19_2 hX, kx_19_3 hX, kx_19_4 hX, kxo_19 hX, kx_24_0 hX, kx_24_1 hX, kx_24_2 hX, kx_24_3 hX, kx_24_4 hX, kx_24_5 hX, kx_24_6 hX, kxo_24 hX, kxa_2 hX, kxa_3 hX, kxa_6 hX, kxa_7 hX, kxa_8 hX, kxa_9 hX, kxa_10 hX, kxa_18 hX, kxa_20 hX, kxa_21 hX, kxa_22 hX, kxa_23 hX, kxa_26 hX, kxa_27 hX, kxr_5 hX, kxr_11 hX, kxr_28 hX, nI_clamp hj31, nI_clamp hI31, kx_ants hj6, kx_ants hI, kxn_0 hX haI, kxn_1 hX haI, kxn_0 hX haj, kxn_1 hX haj]
      rw [hcnt]
      rw [nI_1]
      have eq0 : (vX h 0 j = vX h 0 I ∧ vX h 1 j = vX h 1 I) = (h (12 + j) 0 = h (12 + I) 0 ∧ h (12 + j) 1 = h (12 + I) 1) := by
        rw [vX_at _ _ hj6, vX_at _ _ hj6, vX_at _ _ hI, vX_at _ _ hI]
      refine ⟨fun q => absurd ((nI_leI (by omega) (by omega)).mp q) (by omega), fun _ => ⟨vp_in_nI hj6 (by decide), vp_in_nI hI (by decide), fun q => ?_, fun q => ⟨vp_in_nI hj6 (by decide), vp_in_nI hI (by decide), fun q2 => ?_, fun q2 => ?_⟩⟩⟩
      · rw [jwho_n (by rw [eq0]; exact fun z => q z.1)] at h2
        exact h2
      · rw [jwho_n (by rw [eq0]; exact fun z => q2 z.2)] at h2
        exact h2
      · rw [jwho_s (by rw [eq0]; exact ⟨q, q2⟩)] at h2
        exact h2
  refine H0 60 _ _ _ _ _ _ ?_
  simp only [sg_X6_antsWith_0, sg_X6_antsWith_4, sg_X6_antsWith_60, sg_X6_antsWith_66, cd_X6_antsWith, jwp, o_ic, o_lc, o_iload, o_lload, o_aload, o_istore, o_lstore, o_astore, o_iinc, o_pop, o_dup, o_dup2, o_iadd, o_isub, o_imul, o_iand, o_ior, o_ishl, o_ladd, o_lmul, o_land, o_lor, o_idiv, o_irem, o_ineg, o_i2l, o_l2i, o_i2b, o_i2s, o_lushr, o_lshr, o_lshl, o_lcmp, o_ifeq, o_ifne, o_iflt, o_ifge, o_ifgt, o_ifle, o_iceq, o_icne, o_iclt, o_icge, o_icgt, o_icle, o_goto, o_tsw, jsw, o_lsw, jlk, o_getf, o_putf, o_putz, o_iald, o_zald, o_iast, o_zast, o_aald, o_alen, o_gets, o_zld, o_zlen, o_cpy, o_call, o_callV, o_ireti, o_iretz, o_lret, o_vret, jg, js, jkp, jkill, jsp, jcs, jfw, jov, Value.category, Option.toList_some, Option.toList_none, List.nil_append, List.cons_append, List.append_nil, Nat.reduceAdd, true_and, and_true, jb0, jb01, jb1, jem, true_or, or_true, Classical.not_not, forall_const, List.length_cons, List.length_nil, Nat.reduceLeDiff, Nat.zero_le, Nat.reduceLT, hX, kx_0_0 hX, kx_0_1 hX, kx_0_2 hX, kx_0_3 hX, kx_0_4 hX, kx_0_5 hX, kx_0_6 hX, kx_0_7 hX, kx_0_8 hX, kxo_0 hX, kx_1_0 hX, kx_1_1 hX, kx_1_2 hX, kx_1_3 hX, kxo_1 hX, kx_4_0 hX, kx_4_1 hX, kx_4_2 hX, kxo_4 hX, kx_19_0 hX, kx_19_1 hX, kx_19_2 hX, kx_19_3 hX, kx_19_4 hX, kxo_19 hX, kx_24_0 hX, kx_24_1 hX, kx_24_2 hX, kx_24_3 hX, kx_24_4 hX, kx_24_5 hX, kx_24_6 hX, kxo_24 hX, kxa_2 hX, kxa_3 hX, kxa_6 hX, kxa_7 hX, kxa_8 hX, kxa_9 hX, kxa_10 hX, kxa_18 hX, kxa_20 hX, kxa_21 hX, kxa_22 hX, kxa_23 hX, kxa_26 hX, kxa_27 hX, kxr_5 hX, kxr_11 hX, kxr_28 hX]
  exact loop cnt 0 (by omega)
theorem m_X6_antsWith (l : Launch) : jHolds vwCl l yX6_antsWith wsX6_antsWith 0 0 0 0 T_X6_antsWith := by
  refine m_X6_antsWith_of l (fun G Q vs K h H0 H4 hT => ?_)
  unfold T_X6_antsWith at hT
  split at hT
  · obtain ⟨rfl, hT⟩ := hT
    exact ⟨Nat.le_of_ble_eq_true rfl, v_X6_antsWith hT H0 H4⟩
  · exact hT.elim

/-! X6_noteMeetings -/
/-- the meetings of ants 0 .. i - 1: the bits seen, the memory -/
def cNt (h : jM) (cnt : Nat) : Nat → Int32 × jM
  | 0 => (0, h)
  | i + 1 => if (cNt h cnt i).1 &&& jbit i = 0 ∧ ¬ jwho (vX h 0) (vX h 1) i cnt = jbit i then ((cNt h cnt i).1 ||| jwho (vX h 0) (vX h 1) i cnt, jkeep (cNt h cnt i).2 (h 0 8) (vX h 0 i) (vX h 1 i) (jwho (vX h 0) (vX h 1) i cnt)) else cNt h cnt i
theorem cNt_s {h : jM} {cnt i : Nat} (q : (cNt h cnt i).1 &&& jbit i = 0 ∧ ¬ jwho (vX h 0) (vX h 1) i cnt = jbit i) : cNt h cnt (i + 1) = ((cNt h cnt i).1 ||| jwho (vX h 0) (vX h 1) i cnt, jkeep (cNt h cnt i).2 (h 0 8) (vX h 0 i) (vX h 1 i) (jwho (vX h 0) (vX h 1) i cnt)) := if_pos q
theorem cNt_n {h : jM} {cnt i : Nat} (q : ¬ ((cNt h cnt i).1 &&& jbit i = 0 ∧ ¬ jwho (vX h 0) (vX h 1) i cnt = jbit i)) : cNt h cnt (i + 1) = cNt h cnt i := if_neg q
theorem jkeep_o {h : jM} {w x y b : Int32} {c : Nat} (hc : ¬ (19 ≤ c ∧ c < 24)) : jkeep h w x y b c = h c := by
  unfold jkeep
  split
  · rw [up2_n (by omega), up2_n (by omega), up2_n (by omega), up2_n (by omega), up2_n (by omega)]
  · rw [up2_n (by omega)]
theorem jkeep_t (h : jM) (w x y b : Int32) : jkeep h w x y b 19 0 = h 19 0 + 1 := by
  unfold jkeep
  split
  · rw [up2_s, upd_s]
  · rw [up2_s, upd_s]
theorem cNt_o (h : jM) (cnt : Nat) : ∀ i, (∀ c, ¬ (19 ≤ c ∧ c < 24) → (cNt h cnt i).2 c = h c) ∧ (0 ≤ (h 19 0).toInt → (h 19 0).toInt + i < 2147483648 → (h 19 0).toInt ≤ ((cNt h cnt i).2 19 0).toInt ∧ ((cNt h cnt i).2 19 0).toInt ≤ (h 19 0).toInt + i)
  | 0 => ⟨fun _ _ => rfl, fun _ _ => ⟨Int.le_refl _, by simp [cNt]⟩⟩
  | i + 1 => by
    obtain ⟨h1, h2⟩ := cNt_o h cnt i
    by_cases q : (cNt h cnt i).1 &&& jbit i = 0 ∧ ¬ jwho (vX h 0) (vX h 1) i cnt = jbit i
    · rw [cNt_s q]
      refine ⟨fun c hc => ?_, fun g1 g2 => ?_⟩
      · show jkeep _ _ _ _ _ c = _
        rw [jkeep_o hc]; exact h1 c hc
      · show _ ≤ (jkeep _ _ _ _ _ 19 0).toInt ∧ (jkeep _ _ _ _ _ 19 0).toInt ≤ _
        obtain ⟨h3, h4⟩ := h2 g1 (by omega)
        have e : ((cNt h cnt i).2 19 0 + 1).toInt = ((cNt h cnt i).2 19 0).toInt + 1 := ti_add (by show _ ≤ _ + (1 : Int); omega) (by show _ + (1 : Int) < _; omega)
        rw [jkeep_t, e]
        omega
    · rw [cNt_n q]
      refine ⟨h1, fun g1 g2 => ?_⟩
      obtain ⟨h3, h4⟩ := h2 g1 (by omega)
      omega
def T_X6_noteMeetings : jT := fun vs K h Q => match vs with
  | [.ref r0] => r0 = 0 ∧ (jX K ∧ (∃ cnt : Nat, cnt ≤ 6 ∧ h 0 7 = nI cnt ∧ (0 ≤ (h 19 0).toInt ∧ (h 19 0).toInt + 6 < 2147483648) ∧ Q none K (cNt h cnt cnt).2))
  | _ => False
def sg_X6_noteMeetings_0 : jS := [(o_ic (0), 1), (o_istore 1, 1), (o_ic (0), 1), (o_istore 2, 1)]
def sg_X6_noteMeetings_4 : jS := [(o_iload 2, 1), (o_aload 0, 1), (o_getf 6 7, 3), (o_icge 73, 3), (o_aload 0, 1), (o_iload 2, 1), (o_callV 2 6 T_X6_antsWith, 3), (o_istore 3, 1), (o_iload 1, 1), (o_ic (1), 1), (o_iload 2, 1), (o_ishl, 1), (o_iand, 1), (o_ifne 67, 3), (o_iload 3, 1), (o_ic (1), 1), (o_iload 2, 1), (o_ishl, 1), (o_iceq 67, 3), (o_aload 0, 1), (o_getf 6 4, 3), (o_aload 0, 1), (o_getf 6 8, 3), (o_aload 0, 1), (o_getf 6 2, 3), (o_iload 2, 1), (o_aald 2, 1), (o_getf 0 0, 3), (o_aload 0, 1), (o_getf 6 2, 3), (o_iload 2, 1), (o_aald 2, 1), (o_getf 0 1, 3), (o_iload 3, 1), (o_callV 5 3 T_X3_keep, 3), (o_iload 1, 1), (o_iload 3, 1), (o_ior, 1), (o_istore 1, 1), (o_iinc 2 (1), 3), (o_goto 4, 3)]
def sg_X6_noteMeetings_67 : jS := [(o_iinc 2 (1), 3), (o_goto 4, 3)]
def sg_X6_noteMeetings_73 : jS := [(o_vret, 1)]
def cd_X6_noteMeetings : Nat → jS := fun t => match t with
  | 67 => sg_X6_noteMeetings_67
  | 73 => sg_X6_noteMeetings_73
  | _ => []
theorem wl_X6_noteMeetings_25 : Cond.fieldLink RX6 25 (TX6 2).1 (TX6 2).2.1 (TX6 2).2.2.1 ∈ wsX6_noteMeetings := by decide +kernel
theorem wl_X6_noteMeetings_37 : Cond.fieldLink RX6 37 (TX6 4).1 (TX6 4).2.1 (TX6 4).2.2.1 ∈ wsX6_noteMeetings := by decide +kernel
theorem wl_X6_noteMeetings_67 : Cond.fieldLink RX6 67 (TX6 7).1 (TX6 7).2.1 (TX6 7).2.2.1 ∈ wsX6_noteMeetings := by decide +kernel
theorem wl_X6_noteMeetings_76 : Cond.fieldLink RX6 76 (TX6 8).1 (TX6 8).2.1 (TX6 8).2.2.1 ∈ wsX6_noteMeetings := by decide +kernel
theorem wl_X6_noteMeetings_114 : Cond.fieldLink RX6 114 (TX0 0).1 (TX0 0).2.1 (TX0 0).2.2.1 ∈ wsX6_noteMeetings := by decide +kernel
theorem wl_X6_noteMeetings_117 : Cond.fieldLink RX6 117 (TX0 1).1 (TX0 1).2.1 (TX0 1).2.2.1 ∈ wsX6_noteMeetings := by decide +kernel
theorem wi_X6_noteMeetings_X0 : ∀ w ∈ u_ws RX0 TX0 4, w ∈ wsX6_noteMeetings := by decide +kernel
theorem wi_X6_noteMeetings_X6 : ∀ w ∈ u_ws RX6 TX6 9, w ∈ wsX6_noteMeetings := by decide +kernel
def E_X6_noteMeetings (Γ : jΓ) (Q : jPost) : Prop := Γ.2.2.2.2.2.2.2.2.2.2.1 = 4 ∧ Γ.2.2.2.2.2.2.2.2.2.2.2.1 = vwCl ∧ jC Γ cX6_noteMeetings RX6 "noteMeetings" none wsX6_noteMeetings 1 24 0 0 ∧ jR Γ Q 0 0
theorem oo_X6_noteMeetings_0 {Γ : jΓ} {Q : jPost} (E : E_X6_noteMeetings Γ Q) : jSA Γ Q 0 (o_ic (0)) 1 := so_iconst E.2.2.1 rfl dX6_noteMeetings_0
theorem oo_X6_noteMeetings_1 {Γ : jΓ} {Q : jPost} (E : E_X6_noteMeetings Γ Q) : jSA Γ Q 1 (o_istore 1) 1 := so_istore_n E.2.2.1 rfl (by rw [E.1]; decide) dX6_noteMeetings_1
theorem oo_X6_noteMeetings_2 {Γ : jΓ} {Q : jPost} (E : E_X6_noteMeetings Γ Q) : jSA Γ Q 2 (o_ic (0)) 1 := so_iconst E.2.2.1 rfl dX6_noteMeetings_2
theorem oo_X6_noteMeetings_3 {Γ : jΓ} {Q : jPost} (E : E_X6_noteMeetings Γ Q) : jSA Γ Q 3 (o_istore 2) 1 := so_istore_n E.2.2.1 rfl (by rw [E.1]; decide) dX6_noteMeetings_3
theorem oo_X6_noteMeetings_4 {Γ : jΓ} {Q : jPost} (E : E_X6_noteMeetings Γ Q) : jSA Γ Q 4 (o_iload 2) 1 := so_iload_n E.2.2.1 rfl dX6_noteMeetings_4
theorem oo_X6_noteMeetings_5 {Γ : jΓ} {Q : jPost} (E : E_X6_noteMeetings Γ Q) : jSA Γ Q 5 (o_aload 0) 1 := so_aload_n E.2.2.1 rfl dX6_noteMeetings_5
theorem oo_X6_noteMeetings_6 {Γ : jΓ} {Q : jPost} (E : E_X6_noteMeetings Γ Q) : jSA Γ Q 6 (o_getf 6 7) 3 := so_getf (ci := 6) E.2.2.1 wi_X6_noteMeetings_X6 (by rw [E.2.1]; rfl) 7 (by decide) wl_X6_noteMeetings_67 dX6_noteMeetings_6
theorem oo_X6_noteMeetings_9 {Γ : jΓ} {Q : jPost} (E : E_X6_noteMeetings Γ Q) : jSA Γ Q 9 (o_icge 73) 3 := so_icge E.2.2.1 (by decide) dX6_noteMeetings_9
theorem oo_X6_noteMeetings_12 {Γ : jΓ} {Q : jPost} (E : E_X6_noteMeetings Γ Q) : jSA Γ Q 12 (o_aload 0) 1 := so_aload_n E.2.2.1 rfl dX6_noteMeetings_12
theorem oo_X6_noteMeetings_13 {Γ : jΓ} {Q : jPost} (E : E_X6_noteMeetings Γ Q) : jSA Γ Q 13 (o_iload 2) 1 := so_iload_n E.2.2.1 rfl dX6_noteMeetings_13
theorem oo_X6_noteMeetings_14 {Γ : jΓ} {Q : jPost} (E : E_X6_noteMeetings Γ Q) : jSA Γ Q 14 (o_callV 2 6 T_X6_antsWith) 3 := so_callV E.2.2.1 (ci := 6) (by rw [E.2.1]; rfl) gX6_noteMeetings_X6_antsWith (by decide +kernel) rfl (by rw [E.2.1]; exact m_X6_antsWith _) (by decide) (by decide) dX6_noteMeetings_14
theorem oo_X6_noteMeetings_17 {Γ : jΓ} {Q : jPost} (E : E_X6_noteMeetings Γ Q) : jSA Γ Q 17 (o_istore 3) 1 := so_istore_n E.2.2.1 rfl (by rw [E.1]; decide) dX6_noteMeetings_17
theorem oo_X6_noteMeetings_18 {Γ : jΓ} {Q : jPost} (E : E_X6_noteMeetings Γ Q) : jSA Γ Q 18 (o_iload 1) 1 := so_iload_n E.2.2.1 rfl dX6_noteMeetings_18
theorem oo_X6_noteMeetings_19 {Γ : jΓ} {Q : jPost} (E : E_X6_noteMeetings Γ Q) : jSA Γ Q 19 (o_ic (1)) 1 := so_iconst E.2.2.1 rfl dX6_noteMeetings_19
theorem oo_X6_noteMeetings_20 {Γ : jΓ} {Q : jPost} (E : E_X6_noteMeetings Γ Q) : jSA Γ Q 20 (o_iload 2) 1 := so_iload_n E.2.2.1 rfl dX6_noteMeetings_20
theorem oo_X6_noteMeetings_21 {Γ : jΓ} {Q : jPost} (E : E_X6_noteMeetings Γ Q) : jSA Γ Q 21 (o_ishl) 1 := so_ishl E.2.2.1 dX6_noteMeetings_21
theorem oo_X6_noteMeetings_22 {Γ : jΓ} {Q : jPost} (E : E_X6_noteMeetings Γ Q) : jSA Γ Q 22 (o_iand) 1 := so_iand E.2.2.1 dX6_noteMeetings_22
theorem oo_X6_noteMeetings_23 {Γ : jΓ} {Q : jPost} (E : E_X6_noteMeetings Γ Q) : jSA Γ Q 23 (o_ifne 67) 3 := so_ifne E.2.2.1 (by decide) dX6_noteMeetings_23
theorem oo_X6_noteMeetings_26 {Γ : jΓ} {Q : jPost} (E : E_X6_noteMeetings Γ Q) : jSA Γ Q 26 (o_iload 3) 1 := so_iload_n E.2.2.1 rfl dX6_noteMeetings_26
theorem oo_X6_noteMeetings_27 {Γ : jΓ} {Q : jPost} (E : E_X6_noteMeetings Γ Q) : jSA Γ Q 27 (o_ic (1)) 1 := so_iconst E.2.2.1 rfl dX6_noteMeetings_27
theorem oo_X6_noteMeetings_28 {Γ : jΓ} {Q : jPost} (E : E_X6_noteMeetings Γ Q) : jSA Γ Q 28 (o_iload 2) 1 := so_iload_n E.2.2.1 rfl dX6_noteMeetings_28
theorem oo_X6_noteMeetings_29 {Γ : jΓ} {Q : jPost} (E : E_X6_noteMeetings Γ Q) : jSA Γ Q 29 (o_ishl) 1 := so_ishl E.2.2.1 dX6_noteMeetings_29
theorem oo_X6_noteMeetings_30 {Γ : jΓ} {Q : jPost} (E : E_X6_noteMeetings Γ Q) : jSA Γ Q 30 (o_iceq 67) 3 := so_iceq E.2.2.1 (by decide) dX6_noteMeetings_30
theorem oo_X6_noteMeetings_33 {Γ : jΓ} {Q : jPost} (E : E_X6_noteMeetings Γ Q) : jSA Γ Q 33 (o_aload 0) 1 := so_aload_n E.2.2.1 rfl dX6_noteMeetings_33
theorem oo_X6_noteMeetings_34 {Γ : jΓ} {Q : jPost} (E : E_X6_noteMeetings Γ Q) : jSA Γ Q 34 (o_getf 6 4) 3 := so_getf (ci := 6) E.2.2.1 wi_X6_noteMeetings_X6 (by rw [E.2.1]; rfl) 4 (by decide) wl_X6_noteMeetings_37 dX6_noteMeetings_34
theorem oo_X6_noteMeetings_37 {Γ : jΓ} {Q : jPost} (E : E_X6_noteMeetings Γ Q) : jSA Γ Q 37 (o_aload 0) 1 := so_aload_n E.2.2.1 rfl dX6_noteMeetings_37
theorem oo_X6_noteMeetings_38 {Γ : jΓ} {Q : jPost} (E : E_X6_noteMeetings Γ Q) : jSA Γ Q 38 (o_getf 6 8) 3 := so_getf (ci := 6) E.2.2.1 wi_X6_noteMeetings_X6 (by rw [E.2.1]; rfl) 8 (by decide) wl_X6_noteMeetings_76 dX6_noteMeetings_38
theorem oo_X6_noteMeetings_41 {Γ : jΓ} {Q : jPost} (E : E_X6_noteMeetings Γ Q) : jSA Γ Q 41 (o_aload 0) 1 := so_aload_n E.2.2.1 rfl dX6_noteMeetings_41
theorem oo_X6_noteMeetings_42 {Γ : jΓ} {Q : jPost} (E : E_X6_noteMeetings Γ Q) : jSA Γ Q 42 (o_getf 6 2) 3 := so_getf (ci := 6) E.2.2.1 wi_X6_noteMeetings_X6 (by rw [E.2.1]; rfl) 2 (by decide) wl_X6_noteMeetings_25 dX6_noteMeetings_42
theorem oo_X6_noteMeetings_45 {Γ : jΓ} {Q : jPost} (E : E_X6_noteMeetings Γ Q) : jSA Γ Q 45 (o_iload 2) 1 := so_iload_n E.2.2.1 rfl dX6_noteMeetings_45
theorem oo_X6_noteMeetings_46 {Γ : jΓ} {Q : jPost} (E : E_X6_noteMeetings Γ Q) : jSA Γ Q 46 (o_aald 2) 1 := so_aald2 E.2.2.1 dX6_noteMeetings_46
theorem oo_X6_noteMeetings_47 {Γ : jΓ} {Q : jPost} (E : E_X6_noteMeetings Γ Q) : jSA Γ Q 47 (o_getf 0 0) 3 := so_getf (ci := 0) E.2.2.1 wi_X6_noteMeetings_X0 (by rw [E.2.1]; rfl) 0 (by decide) wl_X6_noteMeetings_114 dX6_noteMeetings_47
theorem oo_X6_noteMeetings_50 {Γ : jΓ} {Q : jPost} (E : E_X6_noteMeetings Γ Q) : jSA Γ Q 50 (o_aload 0) 1 := so_aload_n E.2.2.1 rfl dX6_noteMeetings_50
theorem oo_X6_noteMeetings_51 {Γ : jΓ} {Q : jPost} (E : E_X6_noteMeetings Γ Q) : jSA Γ Q 51 (o_getf 6 2) 3 := so_getf (ci := 6) E.2.2.1 wi_X6_noteMeetings_X6 (by rw [E.2.1]; rfl) 2 (by decide) wl_X6_noteMeetings_25 dX6_noteMeetings_51
theorem oo_X6_noteMeetings_54 {Γ : jΓ} {Q : jPost} (E : E_X6_noteMeetings Γ Q) : jSA Γ Q 54 (o_iload 2) 1 := so_iload_n E.2.2.1 rfl dX6_noteMeetings_54
theorem oo_X6_noteMeetings_55 {Γ : jΓ} {Q : jPost} (E : E_X6_noteMeetings Γ Q) : jSA Γ Q 55 (o_aald 2) 1 := so_aald2 E.2.2.1 dX6_noteMeetings_55
theorem oo_X6_noteMeetings_56 {Γ : jΓ} {Q : jPost} (E : E_X6_noteMeetings Γ Q) : jSA Γ Q 56 (o_getf 0 1) 3 := so_getf (ci := 0) E.2.2.1 wi_X6_noteMeetings_X0 (by rw [E.2.1]; rfl) 1 (by decide) wl_X6_noteMeetings_117 dX6_noteMeetings_56
theorem oo_X6_noteMeetings_59 {Γ : jΓ} {Q : jPost} (E : E_X6_noteMeetings Γ Q) : jSA Γ Q 59 (o_iload 3) 1 := so_iload_n E.2.2.1 rfl dX6_noteMeetings_59
theorem oo_X6_noteMeetings_60 {Γ : jΓ} {Q : jPost} (E : E_X6_noteMeetings Γ Q) : jSA Γ Q 60 (o_callV 5 3 T_X3_keep) 3 := so_callV E.2.2.1 (ci := 3) (by rw [E.2.1]; rfl) gX6_noteMeetings_X3_keep (by decide +kernel) rfl (by rw [E.2.1]; exact m_X3_keep _) (by decide) (by decide) dX6_noteMeetings_60
theorem oo_X6_noteMeetings_63 {Γ : jΓ} {Q : jPost} (E : E_X6_noteMeetings Γ Q) : jSA Γ Q 63 (o_iload 1) 1 := so_iload_n E.2.2.1 rfl dX6_noteMeetings_63
theorem oo_X6_noteMeetings_64 {Γ : jΓ} {Q : jPost} (E : E_X6_noteMeetings Γ Q) : jSA Γ Q 64 (o_iload 3) 1 := so_iload_n E.2.2.1 rfl dX6_noteMeetings_64
theorem oo_X6_noteMeetings_65 {Γ : jΓ} {Q : jPost} (E : E_X6_noteMeetings Γ Q) : jSA Γ Q 65 (o_ior) 1 := so_ior E.2.2.1 dX6_noteMeetings_65
theorem oo_X6_noteMeetings_66 {Γ : jΓ} {Q : jPost} (E : E_X6_noteMeetings Γ Q) : jSA Γ Q 66 (o_istore 1) 1 := so_istore_n E.2.2.1 rfl (by rw [E.1]; decide) dX6_noteMeetings_66
theorem oo_X6_noteMeetings_67 {Γ : jΓ} {Q : jPost} (E : E_X6_noteMeetings Γ Q) : jSA Γ Q 67 (o_iinc 2 (1)) 3 := so_iinc E.2.2.1 rfl (by rw [E.1]; decide) dX6_noteMeetings_67
theorem oo_X6_noteMeetings_70 {Γ : jΓ} {Q : jPost} (E : E_X6_noteMeetings Γ Q) : jSA Γ Q 70 (o_goto 4) 3 := so_goto E.2.2.1 (by decide) dX6_noteMeetings_70
theorem oo_X6_noteMeetings_73 {Γ : jΓ} {Q : jPost} (E : E_X6_noteMeetings Γ Q) : jSA Γ Q 73 (o_vret) 1 := so_vret E.2.2.1 E.2.2.2 dX6_noteMeetings_73
theorem ok_X6_noteMeetings_0 {Γ : jΓ} {Q : jPost} (E : E_X6_noteMeetings Γ Q) : jSS Γ Q 0 sg_X6_noteMeetings_0 := ⟨oo_X6_noteMeetings_0 E, oo_X6_noteMeetings_1 E, oo_X6_noteMeetings_2 E, oo_X6_noteMeetings_3 E, trivial⟩
theorem ok_X6_noteMeetings_4 {Γ : jΓ} {Q : jPost} (E : E_X6_noteMeetings Γ Q) : jSS Γ Q 4 sg_X6_noteMeetings_4 := ⟨oo_X6_noteMeetings_4 E, oo_X6_noteMeetings_5 E, oo_X6_noteMeetings_6 E, oo_X6_noteMeetings_9 E, oo_X6_noteMeetings_12 E, oo_X6_noteMeetings_13 E, oo_X6_noteMeetings_14 E, oo_X6_noteMeetings_17 E, oo_X6_noteMeetings_18 E, oo_X6_noteMeetings_19 E, oo_X6_noteMeetings_20 E, oo_X6_noteMeetings_21 E, oo_X6_noteMeetings_22 E, oo_X6_noteMeetings_23 E, oo_X6_noteMeetings_26 E, oo_X6_noteMeetings_27 E, oo_X6_noteMeetings_28 E, oo_X6_noteMeetings_29 E, oo_X6_noteMeetings_30 E, oo_X6_noteMeetings_33 E, oo_X6_noteMeetings_34 E, oo_X6_noteMeetings_37 E, oo_X6_noteMeetings_38 E, oo_X6_noteMeetings_41 E, oo_X6_noteMeetings_42 E, oo_X6_noteMeetings_45 E, oo_X6_noteMeetings_46 E, oo_X6_noteMeetings_47 E, oo_X6_noteMeetings_50 E, oo_X6_noteMeetings_51 E, oo_X6_noteMeetings_54 E, oo_X6_noteMeetings_55 E, oo_X6_noteMeetings_56 E, oo_X6_noteMeetings_59 E, oo_X6_noteMeetings_60 E, oo_X6_noteMeetings_63 E, oo_X6_noteMeetings_64 E, oo_X6_noteMeetings_65 E, oo_X6_noteMeetings_66 E, oo_X6_noteMeetings_67 E, oo_X6_noteMeetings_70 E, trivial⟩
theorem ok_X6_noteMeetings_67 {Γ : jΓ} {Q : jPost} (E : E_X6_noteMeetings Γ Q) : jSS Γ Q 67 sg_X6_noteMeetings_67 := ⟨oo_X6_noteMeetings_67 E, oo_X6_noteMeetings_70 E, trivial⟩
theorem ok_X6_noteMeetings_73 {Γ : jΓ} {Q : jPost} (E : E_X6_noteMeetings Γ Q) : jSS Γ Q 73 sg_X6_noteMeetings_73 := ⟨oo_X6_noteMeetings_73 E, trivial⟩
theorem okc_X6_noteMeetings {Γ : jΓ} {Q : jPost} (E : E_X6_noteMeetings Γ Q) (t : Nat) : jSS Γ Q t (cd_X6_noteMeetings t) := by
  unfold cd_X6_noteMeetings
  split
  · exact ok_X6_noteMeetings_67 E
  · exact ok_X6_noteMeetings_73 E
  · trivial
theorem m_X6_noteMeetings_of (l : Launch) (hv : ∀ (G : jGt) (Q : jPost) (vs : List Value) (K : List jK) (h : jM), jHd cd_X6_noteMeetings G Q sg_X6_noteMeetings_0 0 → jHd cd_X6_noteMeetings G Q sg_X6_noteMeetings_4 4 → T_X6_noteMeetings vs K h Q → (lg_sl vs).length ≤ 4 ∧ G 0 (jinit vs 4) [] K h 0 0) : jHolds vwCl l yX6_noteMeetings wsX6_noteMeetings 1 24 0 0 T_X6_noteMeetings := by
  refine jMet (cc := cX6_noteMeetings) (maxL := 4) (rt := none) (by decide +kernel) rfl (fun Γ Q vs K h hl hn hcl C hR hT => hv (jG Γ) Q vs K h ?_ ?_ hT)
  · exact fun n L st K h ce sl => jwp_ok (okc_X6_noteMeetings ⟨hn, hcl, C, hR⟩) n sg_X6_noteMeetings_0 0 (ok_X6_noteMeetings_0 ⟨hn, hcl, C, hR⟩) L st K h ce sl
  · exact fun n L st K h ce sl => jwp_ok (okc_X6_noteMeetings ⟨hn, hcl, C, hR⟩) n sg_X6_noteMeetings_4 4 (ok_X6_noteMeetings_4 ⟨hn, hcl, C, hR⟩) L st K h ce sl
set_option maxHeartbeats 4000000 in
set_option maxRecDepth 100000 in
theorem v_X6_noteMeetings {G : jGt} {Q : jPost} {K : List jK} {h : jM}  (hT : jX K ∧ (∃ cnt : Nat, cnt ≤ 6 ∧ h 0 7 = nI cnt ∧ (0 ≤ (h 19 0).toInt ∧ (h 19 0).toInt + 6 < 2147483648) ∧ Q none K (cNt h cnt cnt).2)) (H0 : jHd cd_X6_noteMeetings G Q sg_X6_noteMeetings_0 0) (H4 : jHd cd_X6_noteMeetings G Q sg_X6_noteMeetings_4 4) : G 0 [some (.ref 0), none, none, none] [] K h 0 0 := by
  obtain ⟨hX, cnt, hc6, hcnt, ⟨hm0, hm1⟩, hT⟩ := hT
  have loop : ∀ n i, i + n = cnt → ∀ x3, G 4 [some (.ref 0), some (.int (cNt h cnt i).1), some (.int (nI i)), x3] [] K (cNt h cnt i).2 0 0 := by
    intro n
    induction n with
    | zero =>
      intro i hi x3
      have : i = cnt := by omega
      subst this
      refine H4 60 _ _ _ _ _ _ ?_
      simp only [sg_X6_noteMeetings_0, sg_X6_noteMeetings_4, sg_X6_noteMeetings_67, sg_X6_noteMeetings_73, cd_X6_noteMeetings, jwp, o_ic, o_lc, o_iload, o_lload, o_aload, o_istore, o_lstore, o_astore, o_iinc, o_pop, o_dup, o_dup2, o_iadd, o_isub, o_imul, o_iand, o_ior, o_ishl, o_ladd, o_lmul, o_land, o_lor, o_idiv, o_irem, o_ineg, o_i2l, o_l2i, o_i2b, o_i2s, o_lushr, o_lshr, o_lshl, o_lcmp, o_ifeq, o_ifne, o_iflt, o_ifge, o_ifgt, o_ifle, o_iceq, o_icne, o_iclt, o_icge, o_icgt, o_icle, o_goto, o_tsw, jsw, o_lsw, jlk, o_getf, o_putf, o_putz, o_iald, o_zald, o_iast, o_zast, o_aald, o_alen, o_gets, o_zld, o_zlen, o_cpy, o_call, o_callV, o_ireti, o_iretz, o_lret, o_vret, jg, js, jkp, jkill, jsp, jcs, jfw, jov, Value.category, Option.toList_some, Option.toList_none, List.nil_append, List.cons_append, List.append_nil, Nat.reduceAdd, true_and, and_true, jb0, jb01, jb1, jem, true_or, or_true, Classical.not_not, forall_const, List.length_cons, List.length_nil, Nat.reduceLeDiff, Nat.zero_le, Nat.reduceLT, hX, kx_0_0 hX, kx_0_1 hX, kx_0_2 hX, kx_0_3 hX, kx_0_4 hX, kx_0_5 hX, kx_0_6 hX, kx_0_7 hX, kx_0_8 hX, kxo_0 hX, kx_1_0 hX, kx_1_1 hX, kx_1_2 hX, kx_1_3 hX, kxo_1 hX, kx_4_0 hX, kx_4_1 hX, kx_4_2 hX, kxo_4 hX, kx_19_0 hX, kx_19_1 hX, kx_19_2 hX, kx_19_3 hX, kx_19_4 hX, kxo_19 hX, kx_24_0 hX, kx_24_1 hX, kx_24_2 hX, kx_24_3 hX, kx_24_4 hX, kx_24_5 hX, kx_24_6 hX, kxo_24 hX, kxa_2 hX, kxa_3 hX, kxa_6 hX, kxa_7 hX, kxa_8 hX, kxa_9 hX, kxa_10 hX, kxa_18 hX, kxa_20 hX, kxa_21 hX, kxa_22 hX, kxa_23 hX, kxa_26 hX, kxa_27 hX, kxr_5 hX, kxr_11 hX, kxr_28 hX]
      rw [(cNt_o h i i).1 0 (by decide), hcnt]
      exact ⟨fun _ => hT, fun q => absurd (Int32.le_refl _) q⟩
    | succ n ih =>
      intro i hi x3
      have hi6 : i < 6 := by omega
      have hi31 : i < 2147483648 := by omega
      have hai : isAnt (12 + i) := by unfold isAnt; omega
      have hg0 := (cNt_o h cnt i).1
      have e07 : (cNt h cnt i).2 0 7 = nI cnt := by rw [hg0 0 (by decide), hcnt]
      have evX : ∀ k, vX (cNt h cnt i).2 k = vX h k := fun k => by
        funext j
        unfold vX
        by_cases hj : j < 6
        · rw [if_pos hj, if_pos hj, hg0 (12 + j) (by omega)]
        · rw [if_neg hj, if_neg hj]
      have hm : 0 ≤ ((cNt h cnt i).2 19 0).toInt := by
        have := (cNt_o h cnt i).2 hm0 (by omega)
        omega
      have h2 := ih (i + 1) (by omega)
      refine H4 80 _ _ _ _ _ _ ?_
      simp only [sg_X6_noteMeetings_0, sg_X6_noteMeetings_4, sg_X6_noteMeetings_67, sg_X6_noteMeetings_73, cd_X6_noteMeetings, jwp, o_ic, o_lc, o_iload, o_lload, o_aload, o_istore, o_lstore, o_astore, o_iinc, o_pop, o_dup, o_dup2, o_iadd, o_isub, o_imul, o_iand, o_ior, o_ishl, o_ladd, o_lmul, o_land, o_lor, o_idiv, o_irem, o_ineg, o_i2l, o_l2i, o_i2b, o_i2s, o_lushr, o_lshr, o_lshl, o_lcmp, o_ifeq, o_ifne, o_iflt, o_ifge, o_ifgt, o_ifle, o_iceq, o_icne, o_iclt, o_icge, o_icgt, o_icle, o_goto, o_tsw, jsw, o_lsw, jlk, o_getf, o_putf, o_putz, o_iald, o_zald, o_iast, o_zast, o_aald, o_alen, o_gets, o_zld, o_zlen, o_cpy, o_call, o_callV, o_ireti, o_iretz, o_lret, o_vret, jg, js, jkp, jkill, jsp, jcs, jfw, jov, Value.category, Option.toList_some, Option.toList_none, List.nil_append, List.cons_append, List.append_nil, Nat.reduceAdd, true_and, and_true, jb0, jb01, jb1, jem, true_or, or_true, Classical.not_not, forall_const, List.length_cons, List.length_nil, Nat.reduceLeDiff, Nat.zero_le, Nat.reduceLT, hX, kx_0_0 hX, kx_0_1 hX, kx_0_2 hX, kx_0_3 hX, kx_0_4 hX, kx_0_5 hX, kx_0_6 hX, kx_0_7 hX, kx_0_8 hX, kxo_0 hX, kx_1_0 hX, kx_1_1 hX, kx_1_2 hX, kx_1_3 hX, kxo_1 hX, kx_4_0 hX, kx_4_1 hX, kx_4_2 hX, kxo_4 hX, kx_19_0 hX, kx_19_1 hX, kx_19_2 hX, kx_19_3 hX, kx_19_4 hX, kxo_19 hX, kx_24_0 hX, kx_24_1 hX, kx_24_2 hX, kx_24_3 hX, kx_24_4 hX, kx_24_5 hX, kx_24_6 hX, kxo_24 hX, kxa_2 hX, kxa_3 hX, kxa_6 hX, kxa_7 hX, kxa_8 hX, kxa_9 hX, kxa_10 hX, kxa_18 hX, kxa_20 hX, kxa_21 hX, kxa_22 hX, kxa_23 hX, kxa_26 hX, kxa_27 hX, kxr_5 hX, kxr_11 hX, kxr_28 hX, T_X6_antsWith, T_X3_keep, nI_clamp hi31, kx_ants hi6, kxn_0 hX hai, kxn_1 hX hai]
      rw [e07]
      refine ⟨fun q => absurd ((nI_leI (by omega) (by omega)).mp q) (by omega), fun _ => ⟨i, cnt, hi6, rfl, hc6, rfl, fun q => ?_, fun q => ⟨fun q2 => ?_, fun q2 => ⟨vp_in_nI hi6 (by decide), vp_in_nI hi6 (by decide), hm, ?_⟩⟩⟩⟩
      · have e := cNt_n (h := h) (cnt := cnt) (i := i) (fun z => q z.1)
        rw [e] at h2
        rw [nI_1]
        exact h2 _
      · rw [evX, evX] at q2
        have e := cNt_n (h := h) (cnt := cnt) (i := i) (fun z => z.2 q2)
        rw [e] at h2
        rw [nI_1]
        exact h2 _
      · rw [evX, evX] at q2 ⊢
        have e := cNt_s (h := h) (cnt := cnt) (i := i) ⟨q, q2⟩
        rw [e] at h2
        rw [nI_1, hg0 (12 + i) (by omega), hg0 0 (by decide)]
        rw [vX_at _ _ hi6, vX_at _ _ hi6] at h2
        exact h2 _
  refine H0 60 _ _ _ _ _ _ ?_
  simp only [sg_X6_noteMeetings_0, sg_X6_noteMeetings_4, sg_X6_noteMeetings_67, sg_X6_noteMeetings_73, cd_X6_noteMeetings, jwp, o_ic, o_lc, o_iload, o_lload, o_aload, o_istore, o_lstore, o_astore, o_iinc, o_pop, o_dup, o_dup2, o_iadd, o_isub, o_imul, o_iand, o_ior, o_ishl, o_ladd, o_lmul, o_land, o_lor, o_idiv, o_irem, o_ineg, o_i2l, o_l2i, o_i2b, o_i2s, o_lushr, o_lshr, o_lshl, o_lcmp, o_ifeq, o_ifne, o_iflt, o_ifge, o_ifgt, o_ifle, o_iceq, o_icne, o_iclt, o_icge, o_icgt, o_icle, o_goto, o_tsw, jsw, o_lsw, jlk, o_getf, o_putf, o_putz, o_iald, o_zald, o_iast, o_zast, o_aald, o_alen, o_gets, o_zld, o_zlen, o_cpy, o_call, o_callV, o_ireti, o_iretz, o_lret, o_vret, jg, js, jkp, jkill, jsp, jcs, jfw, jov, Value.category, Option.toList_some, Option.toList_none, List.nil_append, List.cons_append, List.append_nil, Nat.reduceAdd, true_and, and_true, jb0, jb01, jb1, jem, true_or, or_true, Classical.not_not, forall_const, List.length_cons, List.length_nil, Nat.reduceLeDiff, Nat.zero_le, Nat.reduceLT, hX, kx_0_0 hX, kx_0_1 hX, kx_0_2 hX, kx_0_3 hX, kx_0_4 hX, kx_0_5 hX, kx_0_6 hX, kx_0_7 hX, kx_0_8 hX, kxo_0 hX, kx_1_0 hX, kx_1_1 hX, kx_1_2 hX, kx_1_3 hX, kxo_1 hX, kx_4_0 hX, kx_4_1 hX, kx_4_2 hX, kxo_4 hX, kx_19_0 hX, kx_19_1 hX, kx_19_2 hX, kx_19_3 hX, kx_19_4 hX, kxo_19 hX, kx_24_0 hX, kx_24_1 hX, kx_24_2 hX, kx_24_3 hX, kx_24_4 hX, kx_24_5 hX, kx_24_6 hX, kxo_24 hX, kxa_2 hX, kxa_3 hX, kxa_6 hX, kxa_7 hX, kxa_8 hX, kxa_9 hX, kxa_10 hX, kxa_18 hX, kxa_20 hX, kxa_21 hX, kxa_22 hX, kxa_23 hX, kxa_26 hX, kxa_27 hX, kxr_5 hX, kxr_11 hX, kxr_28 hX]
  exact loop cnt 0 (by omega) none
theorem m_X6_noteMeetings (l : Launch) : jHolds vwCl l yX6_noteMeetings wsX6_noteMeetings 1 24 0 0 T_X6_noteMeetings := by
  refine m_X6_noteMeetings_of l (fun G Q vs K h H0 H4 hT => ?_)
  unfold T_X6_noteMeetings at hT
  split at hT
  · obtain ⟨rfl, hT⟩ := hT
    exact ⟨Nat.le_of_ble_eq_true rfl, v_X6_noteMeetings hT H0 H4⟩
  · exact hT.elim

/-! X6_stepAhead -/
/-- nothing but colours, visits, ants and the places where acts began is touched -/
def frB (h g : jM) : Prop := ∀ c, ¬ c = 2 → ¬ c = 3 → ¬ (12 ≤ c ∧ c < 18) → ¬ c = 18 → g c = h c
def T_X6_stepAhead : jT := fun vs K h Q => match vs with
  | [.ref r0] => r0 = 0 ∧ (jX K ∧ (∃ cnt : Nat, cnt ≤ 6 ∧ h 0 7 = nI cnt ∧ (0 ≤ (h 19 0).toInt ∧ (h 19 0).toInt + 6 < 2147483648) ∧ aVal (vQ h) (vS h) cnt ∧ (aAll (vQ h) (vS h) cnt → ∀ g, vS g = aActs (vQ h) (vS h) cnt → g 3 = vB (aP (vS h)) (h 3) cnt → vQ g = vQ h → frB h g → (∀ b, b < cnt → g 18 b = nI (aP (vS h) b)) → Q (some (.int 1)) K (cNt (jtr (up2 g 0 8 (g 0 8 + 1)) cnt) cnt cnt).2) ∧ (¬ aAll (vQ h) (vS h) cnt → ∀ g, vS g = vS h → g 3 = h 3 → vQ g = vQ h → frB h g → Q (some (.int 0)) K g)))
  | _ => False
def sg_X6_stepAhead_0 : jS := [(o_ic (0), 1), (o_istore 1, 1)]
def sg_X6_stepAhead_2 : jS := [(o_iload 1, 1), (o_aload 0, 1), (o_getf 6 7, 3), (o_icge 63, 3), (o_aload 0, 1), (o_getf 6 3, 3), (o_iload 1, 1), (o_aload 0, 1), (o_getf 6 2, 3), (o_iload 1, 1), (o_aald 2, 1), (o_getf 0 0, 3), (o_aload 0, 1), (o_getf 6 2, 3), (o_iload 1, 1), (o_aald 2, 1), (o_getf 0 1, 3), (o_call 2 T_X6_placeOf, 3), (o_iast, 1), (o_aload 0, 1), (o_aload 0, 1), (o_getf 6 2, 3), (o_iload 1, 1), (o_aald 2, 1), (o_callV 2 6 T_X6_act, 3), (o_ifne 57, 3), (o_aload 0, 1), (o_iload 1, 1), (o_callV 2 6 T_X6_takeBackActs, 3), (o_ic (0), 1), (o_iretz, 1)]
def sg_X6_stepAhead_57 : jS := [(o_iinc 1 (1), 3), (o_goto 2, 3)]
def sg_X6_stepAhead_63 : jS := [(o_aload 0, 1), (o_dup, 1), (o_getf 6 8, 3), (o_ic (1), 1), (o_iadd, 1), (o_putf 6 8, 3), (o_aload 0, 1), (o_getf 6 5, 3), (o_aload 0, 1), (o_getf 6 3, 3), (o_aload 0, 1), (o_getf 6 7, 3), (o_callV 3 2 T_X2_tread, 3), (o_aload 0, 1), (o_callV 1 6 T_X6_noteMeetings, 3), (o_ic (1), 1), (o_iretz, 1)]
def cd_X6_stepAhead : Nat → jS := fun t => match t with
  | 57 => sg_X6_stepAhead_57
  | 63 => sg_X6_stepAhead_63
  | _ => []
theorem wl_X6_stepAhead_25 : Cond.fieldLink RX6 25 (TX6 2).1 (TX6 2).2.1 (TX6 2).2.2.1 ∈ wsX6_stepAhead := by decide +kernel
theorem wl_X6_stepAhead_30 : Cond.fieldLink RX6 30 (TX6 3).1 (TX6 3).2.1 (TX6 3).2.2.1 ∈ wsX6_stepAhead := by decide +kernel
theorem wl_X6_stepAhead_44 : Cond.fieldLink RX6 44 (TX6 5).1 (TX6 5).2.1 (TX6 5).2.2.1 ∈ wsX6_stepAhead := by decide +kernel
theorem wl_X6_stepAhead_67 : Cond.fieldLink RX6 67 (TX6 7).1 (TX6 7).2.1 (TX6 7).2.2.1 ∈ wsX6_stepAhead := by decide +kernel
theorem wl_X6_stepAhead_76 : Cond.fieldLink RX6 76 (TX6 8).1 (TX6 8).2.1 (TX6 8).2.2.1 ∈ wsX6_stepAhead := by decide +kernel
theorem wl_X6_stepAhead_114 : Cond.fieldLink RX6 114 (TX0 0).1 (TX0 0).2.1 (TX0 0).2.2.1 ∈ wsX6_stepAhead := by decide +kernel
theorem wl_X6_stepAhead_117 : Cond.fieldLink RX6 117 (TX0 1).1 (TX0 1).2.1 (TX0 1).2.2.1 ∈ wsX6_stepAhead := by decide +kernel
theorem wi_X6_stepAhead_X0 : ∀ w ∈ u_ws RX0 TX0 4, w ∈ wsX6_stepAhead := by decide +kernel
theorem wi_X6_stepAhead_X6 : ∀ w ∈ u_ws RX6 TX6 9, w ∈ wsX6_stepAhead := by decide +kernel
def E_X6_stepAhead (Γ : jΓ) (Q : jPost) : Prop := Γ.2.2.2.2.2.2.2.2.2.2.1 = 2 ∧ Γ.2.2.2.2.2.2.2.2.2.2.2.1 = vwCl ∧ jC Γ cX6_stepAhead RX6 "stepAhead" (some .boolean) wsX6_stepAhead 4 91 0 0 ∧ jR Γ Q 0 0
theorem oo_X6_stepAhead_0 {Γ : jΓ} {Q : jPost} (E : E_X6_stepAhead Γ Q) : jSA Γ Q 0 (o_ic (0)) 1 := so_iconst E.2.2.1 rfl dX6_stepAhead_0
theorem oo_X6_stepAhead_1 {Γ : jΓ} {Q : jPost} (E : E_X6_stepAhead Γ Q) : jSA Γ Q 1 (o_istore 1) 1 := so_istore_n E.2.2.1 rfl (by rw [E.1]; decide) dX6_stepAhead_1
theorem oo_X6_stepAhead_2 {Γ : jΓ} {Q : jPost} (E : E_X6_stepAhead Γ Q) : jSA Γ Q 2 (o_iload 1) 1 := so_iload_n E.2.2.1 rfl dX6_stepAhead_2
theorem oo_X6_stepAhead_3 {Γ : jΓ} {Q : jPost} (E : E_X6_stepAhead Γ Q) : jSA Γ Q 3 (o_aload 0) 1 := so_aload_n E.2.2.1 rfl dX6_stepAhead_3
theorem oo_X6_stepAhead_4 {Γ : jΓ} {Q : jPost} (E : E_X6_stepAhead Γ Q) : jSA Γ Q 4 (o_getf 6 7) 3 := so_getf (ci := 6) E.2.2.1 wi_X6_stepAhead_X6 (by rw [E.2.1]; rfl) 7 (by decide) wl_X6_stepAhead_67 dX6_stepAhead_4
theorem oo_X6_stepAhead_7 {Γ : jΓ} {Q : jPost} (E : E_X6_stepAhead Γ Q) : jSA Γ Q 7 (o_icge 63) 3 := so_icge E.2.2.1 (by decide) dX6_stepAhead_7
theorem oo_X6_stepAhead_10 {Γ : jΓ} {Q : jPost} (E : E_X6_stepAhead Γ Q) : jSA Γ Q 10 (o_aload 0) 1 := so_aload_n E.2.2.1 rfl dX6_stepAhead_10
theorem oo_X6_stepAhead_11 {Γ : jΓ} {Q : jPost} (E : E_X6_stepAhead Γ Q) : jSA Γ Q 11 (o_getf 6 3) 3 := so_getf (ci := 6) E.2.2.1 wi_X6_stepAhead_X6 (by rw [E.2.1]; rfl) 3 (by decide) wl_X6_stepAhead_30 dX6_stepAhead_11
theorem oo_X6_stepAhead_14 {Γ : jΓ} {Q : jPost} (E : E_X6_stepAhead Γ Q) : jSA Γ Q 14 (o_iload 1) 1 := so_iload_n E.2.2.1 rfl dX6_stepAhead_14
theorem oo_X6_stepAhead_15 {Γ : jΓ} {Q : jPost} (E : E_X6_stepAhead Γ Q) : jSA Γ Q 15 (o_aload 0) 1 := so_aload_n E.2.2.1 rfl dX6_stepAhead_15
theorem oo_X6_stepAhead_16 {Γ : jΓ} {Q : jPost} (E : E_X6_stepAhead Γ Q) : jSA Γ Q 16 (o_getf 6 2) 3 := so_getf (ci := 6) E.2.2.1 wi_X6_stepAhead_X6 (by rw [E.2.1]; rfl) 2 (by decide) wl_X6_stepAhead_25 dX6_stepAhead_16
theorem oo_X6_stepAhead_19 {Γ : jΓ} {Q : jPost} (E : E_X6_stepAhead Γ Q) : jSA Γ Q 19 (o_iload 1) 1 := so_iload_n E.2.2.1 rfl dX6_stepAhead_19
theorem oo_X6_stepAhead_20 {Γ : jΓ} {Q : jPost} (E : E_X6_stepAhead Γ Q) : jSA Γ Q 20 (o_aald 2) 1 := so_aald2 E.2.2.1 dX6_stepAhead_20
theorem oo_X6_stepAhead_21 {Γ : jΓ} {Q : jPost} (E : E_X6_stepAhead Γ Q) : jSA Γ Q 21 (o_getf 0 0) 3 := so_getf (ci := 0) E.2.2.1 wi_X6_stepAhead_X0 (by rw [E.2.1]; rfl) 0 (by decide) wl_X6_stepAhead_114 dX6_stepAhead_21
theorem oo_X6_stepAhead_24 {Γ : jΓ} {Q : jPost} (E : E_X6_stepAhead Γ Q) : jSA Γ Q 24 (o_aload 0) 1 := so_aload_n E.2.2.1 rfl dX6_stepAhead_24
theorem oo_X6_stepAhead_25 {Γ : jΓ} {Q : jPost} (E : E_X6_stepAhead Γ Q) : jSA Γ Q 25 (o_getf 6 2) 3 := so_getf (ci := 6) E.2.2.1 wi_X6_stepAhead_X6 (by rw [E.2.1]; rfl) 2 (by decide) wl_X6_stepAhead_25 dX6_stepAhead_25
theorem oo_X6_stepAhead_28 {Γ : jΓ} {Q : jPost} (E : E_X6_stepAhead Γ Q) : jSA Γ Q 28 (o_iload 1) 1 := so_iload_n E.2.2.1 rfl dX6_stepAhead_28
theorem oo_X6_stepAhead_29 {Γ : jΓ} {Q : jPost} (E : E_X6_stepAhead Γ Q) : jSA Γ Q 29 (o_aald 2) 1 := so_aald2 E.2.2.1 dX6_stepAhead_29
theorem oo_X6_stepAhead_30 {Γ : jΓ} {Q : jPost} (E : E_X6_stepAhead Γ Q) : jSA Γ Q 30 (o_getf 0 1) 3 := so_getf (ci := 0) E.2.2.1 wi_X6_stepAhead_X0 (by rw [E.2.1]; rfl) 1 (by decide) wl_X6_stepAhead_117 dX6_stepAhead_30
theorem oo_X6_stepAhead_33 {Γ : jΓ} {Q : jPost} (E : E_X6_stepAhead Γ Q) : jSA Γ Q 33 (o_call 2 T_X6_placeOf) 3 := so_callS E.2.2.1 gX6_stepAhead_X6_placeOf (by decide +kernel) rfl (by rw [E.2.1]; exact m_X6_placeOf _) (by decide) (by decide) dX6_stepAhead_33
theorem oo_X6_stepAhead_36 {Γ : jΓ} {Q : jPost} (E : E_X6_stepAhead Γ Q) : jSA Γ Q 36 (o_iast) 1 := so_iast E.2.2.1 dX6_stepAhead_36
theorem oo_X6_stepAhead_37 {Γ : jΓ} {Q : jPost} (E : E_X6_stepAhead Γ Q) : jSA Γ Q 37 (o_aload 0) 1 := so_aload_n E.2.2.1 rfl dX6_stepAhead_37
theorem oo_X6_stepAhead_38 {Γ : jΓ} {Q : jPost} (E : E_X6_stepAhead Γ Q) : jSA Γ Q 38 (o_aload 0) 1 := so_aload_n E.2.2.1 rfl dX6_stepAhead_38
theorem oo_X6_stepAhead_39 {Γ : jΓ} {Q : jPost} (E : E_X6_stepAhead Γ Q) : jSA Γ Q 39 (o_getf 6 2) 3 := so_getf (ci := 6) E.2.2.1 wi_X6_stepAhead_X6 (by rw [E.2.1]; rfl) 2 (by decide) wl_X6_stepAhead_25 dX6_stepAhead_39
theorem oo_X6_stepAhead_42 {Γ : jΓ} {Q : jPost} (E : E_X6_stepAhead Γ Q) : jSA Γ Q 42 (o_iload 1) 1 := so_iload_n E.2.2.1 rfl dX6_stepAhead_42
theorem oo_X6_stepAhead_43 {Γ : jΓ} {Q : jPost} (E : E_X6_stepAhead Γ Q) : jSA Γ Q 43 (o_aald 2) 1 := so_aald2 E.2.2.1 dX6_stepAhead_43
theorem oo_X6_stepAhead_44 {Γ : jΓ} {Q : jPost} (E : E_X6_stepAhead Γ Q) : jSA Γ Q 44 (o_callV 2 6 T_X6_act) 3 := so_callV E.2.2.1 (ci := 6) (by rw [E.2.1]; rfl) gX6_stepAhead_X6_act (by decide +kernel) rfl (by rw [E.2.1]; exact m_X6_act _) (by decide) (by decide) dX6_stepAhead_44
theorem oo_X6_stepAhead_47 {Γ : jΓ} {Q : jPost} (E : E_X6_stepAhead Γ Q) : jSA Γ Q 47 (o_ifne 57) 3 := so_ifne E.2.2.1 (by decide) dX6_stepAhead_47
theorem oo_X6_stepAhead_50 {Γ : jΓ} {Q : jPost} (E : E_X6_stepAhead Γ Q) : jSA Γ Q 50 (o_aload 0) 1 := so_aload_n E.2.2.1 rfl dX6_stepAhead_50
theorem oo_X6_stepAhead_51 {Γ : jΓ} {Q : jPost} (E : E_X6_stepAhead Γ Q) : jSA Γ Q 51 (o_iload 1) 1 := so_iload_n E.2.2.1 rfl dX6_stepAhead_51
theorem oo_X6_stepAhead_52 {Γ : jΓ} {Q : jPost} (E : E_X6_stepAhead Γ Q) : jSA Γ Q 52 (o_callV 2 6 T_X6_takeBackActs) 3 := so_callV E.2.2.1 (ci := 6) (by rw [E.2.1]; rfl) gX6_stepAhead_X6_takeBackActs (by decide +kernel) rfl (by rw [E.2.1]; exact m_X6_takeBackActs _) (by decide) (by decide) dX6_stepAhead_52
theorem oo_X6_stepAhead_55 {Γ : jΓ} {Q : jPost} (E : E_X6_stepAhead Γ Q) : jSA Γ Q 55 (o_ic (0)) 1 := so_iconst E.2.2.1 rfl dX6_stepAhead_55
theorem oo_X6_stepAhead_56 {Γ : jΓ} {Q : jPost} (E : E_X6_stepAhead Γ Q) : jSA Γ Q 56 (o_iretz) 1 := so_iretz E.2.2.1 E.2.2.2 dX6_stepAhead_56
theorem oo_X6_stepAhead_57 {Γ : jΓ} {Q : jPost} (E : E_X6_stepAhead Γ Q) : jSA Γ Q 57 (o_iinc 1 (1)) 3 := so_iinc E.2.2.1 rfl (by rw [E.1]; decide) dX6_stepAhead_57
theorem oo_X6_stepAhead_60 {Γ : jΓ} {Q : jPost} (E : E_X6_stepAhead Γ Q) : jSA Γ Q 60 (o_goto 2) 3 := so_goto E.2.2.1 (by decide) dX6_stepAhead_60
theorem oo_X6_stepAhead_63 {Γ : jΓ} {Q : jPost} (E : E_X6_stepAhead Γ Q) : jSA Γ Q 63 (o_aload 0) 1 := so_aload_n E.2.2.1 rfl dX6_stepAhead_63
theorem oo_X6_stepAhead_64 {Γ : jΓ} {Q : jPost} (E : E_X6_stepAhead Γ Q) : jSA Γ Q 64 (o_dup) 1 := so_dup E.2.2.1 dX6_stepAhead_64
theorem oo_X6_stepAhead_65 {Γ : jΓ} {Q : jPost} (E : E_X6_stepAhead Γ Q) : jSA Γ Q 65 (o_getf 6 8) 3 := so_getf (ci := 6) E.2.2.1 wi_X6_stepAhead_X6 (by rw [E.2.1]; rfl) 8 (by decide) wl_X6_stepAhead_76 dX6_stepAhead_65
theorem oo_X6_stepAhead_68 {Γ : jΓ} {Q : jPost} (E : E_X6_stepAhead Γ Q) : jSA Γ Q 68 (o_ic (1)) 1 := so_iconst E.2.2.1 rfl dX6_stepAhead_68
theorem oo_X6_stepAhead_69 {Γ : jΓ} {Q : jPost} (E : E_X6_stepAhead Γ Q) : jSA Γ Q 69 (o_iadd) 1 := so_iadd E.2.2.1 dX6_stepAhead_69
theorem oo_X6_stepAhead_70 {Γ : jΓ} {Q : jPost} (E : E_X6_stepAhead Γ Q) : jSA Γ Q 70 (o_putf 6 8) 3 := so_putf (ci := 6) E.2.2.1 tyX6 tyX6_ok nmX6 wi_X6_stepAhead_X6 (by rw [E.2.1]; rfl) 8 (by decide) wl_X6_stepAhead_76 rfl (by decide +kernel) dX6_stepAhead_70
theorem oo_X6_stepAhead_73 {Γ : jΓ} {Q : jPost} (E : E_X6_stepAhead Γ Q) : jSA Γ Q 73 (o_aload 0) 1 := so_aload_n E.2.2.1 rfl dX6_stepAhead_73
theorem oo_X6_stepAhead_74 {Γ : jΓ} {Q : jPost} (E : E_X6_stepAhead Γ Q) : jSA Γ Q 74 (o_getf 6 5) 3 := so_getf (ci := 6) E.2.2.1 wi_X6_stepAhead_X6 (by rw [E.2.1]; rfl) 5 (by decide) wl_X6_stepAhead_44 dX6_stepAhead_74
theorem oo_X6_stepAhead_77 {Γ : jΓ} {Q : jPost} (E : E_X6_stepAhead Γ Q) : jSA Γ Q 77 (o_aload 0) 1 := so_aload_n E.2.2.1 rfl dX6_stepAhead_77
theorem oo_X6_stepAhead_78 {Γ : jΓ} {Q : jPost} (E : E_X6_stepAhead Γ Q) : jSA Γ Q 78 (o_getf 6 3) 3 := so_getf (ci := 6) E.2.2.1 wi_X6_stepAhead_X6 (by rw [E.2.1]; rfl) 3 (by decide) wl_X6_stepAhead_30 dX6_stepAhead_78
theorem oo_X6_stepAhead_81 {Γ : jΓ} {Q : jPost} (E : E_X6_stepAhead Γ Q) : jSA Γ Q 81 (o_aload 0) 1 := so_aload_n E.2.2.1 rfl dX6_stepAhead_81
theorem oo_X6_stepAhead_82 {Γ : jΓ} {Q : jPost} (E : E_X6_stepAhead Γ Q) : jSA Γ Q 82 (o_getf 6 7) 3 := so_getf (ci := 6) E.2.2.1 wi_X6_stepAhead_X6 (by rw [E.2.1]; rfl) 7 (by decide) wl_X6_stepAhead_67 dX6_stepAhead_82
theorem oo_X6_stepAhead_85 {Γ : jΓ} {Q : jPost} (E : E_X6_stepAhead Γ Q) : jSA Γ Q 85 (o_callV 3 2 T_X2_tread) 3 := so_callV E.2.2.1 (ci := 2) (by rw [E.2.1]; rfl) gX6_stepAhead_X2_tread (by decide +kernel) rfl (by rw [E.2.1]; exact m_X2_tread _) (by decide) (by decide) dX6_stepAhead_85
theorem oo_X6_stepAhead_88 {Γ : jΓ} {Q : jPost} (E : E_X6_stepAhead Γ Q) : jSA Γ Q 88 (o_aload 0) 1 := so_aload_n E.2.2.1 rfl dX6_stepAhead_88
theorem oo_X6_stepAhead_89 {Γ : jΓ} {Q : jPost} (E : E_X6_stepAhead Γ Q) : jSA Γ Q 89 (o_callV 1 6 T_X6_noteMeetings) 3 := so_callV E.2.2.1 (ci := 6) (by rw [E.2.1]; rfl) gX6_stepAhead_X6_noteMeetings (by decide +kernel) rfl (by rw [E.2.1]; exact m_X6_noteMeetings _) (by decide) (by decide) dX6_stepAhead_89
theorem oo_X6_stepAhead_92 {Γ : jΓ} {Q : jPost} (E : E_X6_stepAhead Γ Q) : jSA Γ Q 92 (o_ic (1)) 1 := so_iconst E.2.2.1 rfl dX6_stepAhead_92
theorem oo_X6_stepAhead_93 {Γ : jΓ} {Q : jPost} (E : E_X6_stepAhead Γ Q) : jSA Γ Q 93 (o_iretz) 1 := so_iretz E.2.2.1 E.2.2.2 dX6_stepAhead_93
theorem ok_X6_stepAhead_0 {Γ : jΓ} {Q : jPost} (E : E_X6_stepAhead Γ Q) : jSS Γ Q 0 sg_X6_stepAhead_0 := ⟨oo_X6_stepAhead_0 E, oo_X6_stepAhead_1 E, trivial⟩
theorem ok_X6_stepAhead_2 {Γ : jΓ} {Q : jPost} (E : E_X6_stepAhead Γ Q) : jSS Γ Q 2 sg_X6_stepAhead_2 := ⟨oo_X6_stepAhead_2 E, oo_X6_stepAhead_3 E, oo_X6_stepAhead_4 E, oo_X6_stepAhead_7 E, oo_X6_stepAhead_10 E, oo_X6_stepAhead_11 E, oo_X6_stepAhead_14 E, oo_X6_stepAhead_15 E, oo_X6_stepAhead_16 E, oo_X6_stepAhead_19 E, oo_X6_stepAhead_20 E, oo_X6_stepAhead_21 E, oo_X6_stepAhead_24 E, oo_X6_stepAhead_25 E, oo_X6_stepAhead_28 E, oo_X6_stepAhead_29 E, oo_X6_stepAhead_30 E, oo_X6_stepAhead_33 E, oo_X6_stepAhead_36 E, oo_X6_stepAhead_37 E, oo_X6_stepAhead_38 E, oo_X6_stepAhead_39 E, oo_X6_stepAhead_42 E, oo_X6_stepAhead_43 E, oo_X6_stepAhead_44 E, oo_X6_stepAhead_47 E, oo_X6_stepAhead_50 E, oo_X6_stepAhead_51 E, oo_X6_stepAhead_52 E, oo_X6_stepAhead_55 E, oo_X6_stepAhead_56 E, trivial⟩
theorem ok_X6_stepAhead_57 {Γ : jΓ} {Q : jPost} (E : E_X6_stepAhead Γ Q) : jSS Γ Q 57 sg_X6_stepAhead_57 := ⟨oo_X6_stepAhead_57 E, oo_X6_stepAhead_60 E, trivial⟩
theorem ok_X6_stepAhead_63 {Γ : jΓ} {Q : jPost} (E : E_X6_stepAhead Γ Q) : jSS Γ Q 63 sg_X6_stepAhead_63 := ⟨oo_X6_stepAhead_63 E, oo_X6_stepAhead_64 E, oo_X6_stepAhead_65 E, oo_X6_stepAhead_68 E, oo_X6_stepAhead_69 E, oo_X6_stepAhead_70 E, oo_X6_stepAhead_73 E, oo_X6_stepAhead_74 E, oo_X6_stepAhead_77 E, oo_X6_stepAhead_78 E, oo_X6_stepAhead_81 E, oo_X6_stepAhead_82 E, oo_X6_stepAhead_85 E, oo_X6_stepAhead_88 E, oo_X6_stepAhead_89 E, oo_X6_stepAhead_92 E, oo_X6_stepAhead_93 E, trivial⟩
theorem okc_X6_stepAhead {Γ : jΓ} {Q : jPost} (E : E_X6_stepAhead Γ Q) (t : Nat) : jSS Γ Q t (cd_X6_stepAhead t) := by
  unfold cd_X6_stepAhead
  split
  · exact ok_X6_stepAhead_57 E
  · exact ok_X6_stepAhead_63 E
  · trivial
theorem m_X6_stepAhead_of (l : Launch) (hv : ∀ (G : jGt) (Q : jPost) (vs : List Value) (K : List jK) (h : jM), jHd cd_X6_stepAhead G Q sg_X6_stepAhead_0 0 → jHd cd_X6_stepAhead G Q sg_X6_stepAhead_2 2 → T_X6_stepAhead vs K h Q → (lg_sl vs).length ≤ 2 ∧ G 0 (jinit vs 2) [] K h 0 0) : jHolds vwCl l yX6_stepAhead wsX6_stepAhead 4 91 0 0 T_X6_stepAhead := by
  refine jMet (cc := cX6_stepAhead) (maxL := 2) (rt := (some .boolean)) (by decide +kernel) rfl (fun Γ Q vs K h hl hn hcl C hR hT => hv (jG Γ) Q vs K h ?_ ?_ hT)
  · exact fun n L st K h ce sl => jwp_ok (okc_X6_stepAhead ⟨hn, hcl, C, hR⟩) n sg_X6_stepAhead_0 0 (ok_X6_stepAhead_0 ⟨hn, hcl, C, hR⟩) L st K h ce sl
  · exact fun n L st K h ce sl => jwp_ok (okc_X6_stepAhead ⟨hn, hcl, C, hR⟩) n sg_X6_stepAhead_2 2 (ok_X6_stepAhead_2 ⟨hn, hcl, C, hR⟩) L st K h ce sl
set_option maxHeartbeats 4000000 in
set_option maxRecDepth 100000 in
theorem v_X6_stepAhead {G : jGt} {Q : jPost} {K : List jK} {h : jM}  (hT : jX K ∧ (∃ cnt : Nat, cnt ≤ 6 ∧ h 0 7 = nI cnt ∧ (0 ≤ (h 19 0).toInt ∧ (h 19 0).toInt + 6 < 2147483648) ∧ aVal (vQ h) (vS h) cnt ∧ (aAll (vQ h) (vS h) cnt → ∀ g, vS g = aActs (vQ h) (vS h) cnt → g 3 = vB (aP (vS h)) (h 3) cnt → vQ g = vQ h → frB h g → (∀ b, b < cnt → g 18 b = nI (aP (vS h) b)) → Q (some (.int 1)) K (cNt (jtr (up2 g 0 8 (g 0 8 + 1)) cnt) cnt cnt).2) ∧ (¬ aAll (vQ h) (vS h) cnt → ∀ g, vS g = vS h → g 3 = h 3 → vQ g = vQ h → frB h g → Q (some (.int 0)) K g))) (H0 : jHd cd_X6_stepAhead G Q sg_X6_stepAhead_0 0) (H2 : jHd cd_X6_stepAhead G Q sg_X6_stepAhead_2 2) : G 0 [some (.ref 0), none] [] K h 0 0 := by
  obtain ⟨hX, cnt, hc6, hcnt, ⟨hm0, hm1⟩, hv, hT1, hT0⟩ := hT
  have loop : ∀ n i, i + n = cnt → aAll (vQ h) (vS h) i → ∀ g, vS g = aActs (vQ h) (vS h) i → g 3 = vB (aP (vS h)) (h 3) i → vQ g = vQ h → frB h g → (∀ b, b < i → g 18 b = nI (aP (vS h) b)) → G 2 [some (.ref 0), some (.int (nI i))] [] K g 0 0 := by
    intro n
    induction n with
    | zero =>
      intro i hi hall g hS h3 hQ hfr hbg
      have : i = cnt := by omega
      subst this
      have e07 : g 0 7 = nI i := by rw [hfr 0 (by decide) (by decide) (by decide) (by decide), hcnt]
      have e19 : g 19 = h 19 := hfr 19 (by decide) (by decide) (by decide) (by decide)
      have f07 : up2 g 0 8 (g 0 8 + 1) 0 7 = nI i := by rw [up2_s, upd_n (by decide), e07]
      refine H2 80 _ _ _ _ _ _ ?_
      simp only [sg_X6_stepAhead_0, sg_X6_stepAhead_2, sg_X6_stepAhead_57, sg_X6_stepAhead_63, cd_X6_stepAhead, jwp, o_ic, o_lc, o_iload, o_lload, o_aload, o_istore, o_lstore, o_astore, o_iinc, o_pop, o_dup, o_dup2, o_iadd, o_isub, o_imul, o_iand, o_ior, o_ishl, o_ladd, o_lmul, o_land, o_lor, o_idiv, o_irem, o_ineg, o_i2l, o_l2i, o_i2b, o_i2s, o_lushr, o_lshr, o_lshl, o_lcmp, o_ifeq, o_ifne, o_iflt, o_ifge, o_ifgt, o_ifle, o_iceq, o_icne, o_iclt, o_icge, o_icgt, o_icle, o_goto, o_tsw, jsw, o_lsw, jlk, o_getf, o_putf, o_putz, o_iald, o_zald, o_iast, o_zast, o_aald, o_alen, o_gets, o_zld, o_zlen, o_cpy, o_call, o_callV, o_ireti, o_iretz, o_lret, o_vret, jg, js, jkp, jkill, jsp, jcs, jfw, jov, Value.category, Option.toList_some, Option.toList_none, List.nil_append, List.cons_append, List.append_nil, Nat.reduceAdd, true_and, and_true, jb0, jb01, jb1, jem, true_or, or_true, Classical.not_not, forall_const, List.length_cons, List.length_nil, Nat.reduceLeDiff, Nat.zero_le, Nat.reduceLT, hX, kx_0_0 hX, kx_0_1 hX, kx_0_2 hX, kx_0_3 hX, kx_0_4 hX, kx_0_5 hX, kx_0_6 hX, kx_0_7 hX, kx_0_8 hX, kxo_0 hX, kx_1_0 hX, kx_1_1 hX, kx_1_2 hX, kx_1_3 hX, kxo_1 hX, kx_4_0 hX, kx_4_1 hX, kx_4_2 hX, kxo_4 hX, kx_19_0 hX, kx_19_1 hX, kx_19_2 hX, kx_19_3 hX, kx_19_4 hX, kxo_19 hX, kx_24_0 hX, kx_24_1 hX, kx_24_2 hX, kx_24_3 hX, kx_24_4 hX, kx_24_5 hX, kx_24_6 hX, kxo_24 hX, kxa_2 hX, kxa_3 hX, kxa_6 hX, kxa_7 hX, kxa_8 hX, kxa_9 hX, kxa_10 hX, kxa_18 hX, kxa_20 hX, kxa_21 hX, kxa_22 hX, kxa_23 hX, kxa_26 hX, kxa_27 hX, kxr_5 hX, kxr_11 hX, kxr_28 hX, T_X6_placeOf, T_X6_act, T_X6_takeBackActs, T_X2_tread, T_X6_noteMeetings]
      rw [e07, f07, nI_toInt (by omega)]
      simp only [Int.toNat_natCast]
      have g07 : jtr (up2 g 0 8 (g 0 8 + 1)) i 0 7 = nI i := by rw [jtr_o _ (by decide) (by decide), f07]
      have g19 : jtr (up2 g 0 8 (g 0 8 + 1)) i 19 0 = h 19 0 := by rw [jtr_o _ (by decide) (by decide), up2_n (by decide), e19]
      have hT1 := hT1 hall g hS h3 hQ hfr hbg
      refine ⟨fun _ => ⟨⟨by omega, by omega⟩, fun k hk => ?_, i, hc6, g07, ⟨by rw [g19]; exact hm0, by rw [g19]; exact hm1⟩, hT1⟩, fun q => absurd (Int32.le_refl _) q⟩
      rw [up2_n (by decide), hbg k hk]
      exact vp_in_nI (aP_lt (hv.2 k hk)) (by decide)
    | succ n ih =>
      intro i hi hall g hS h3 hQ hfr hbg
      have e07 : g 0 7 = nI cnt := by rw [hfr 0 (by decide) (by decide) (by decide) (by decide), hcnt]
      have hi6 : i < 6 := by omega
      have hi31 : i < 2147483648 := by omega
      have hai : isAnt (12 + i) := by unfold isAnt; omega
      have hvk := aVal_acts hv i (by omega) hall
      have hon := (hvk.2 i (by omega)).1
      have hvg : aVal (vQ g) (vS g) cnt := by rw [hQ, hS]; exact hvk
      have epl : jpl (g (12 + i) 0) (g (12 + i) 1) = nI (aP (vS h) i) := by
        have e1 : (aActs (vQ h) (vS h) i).2.1 i = g (12 + i) 0 := by rw [← hS]; exact vX_at g 0 hi6
        have e2 : (aActs (vQ h) (vS h) i).2.2.1 i = g (12 + i) 1 := by rw [← hS]; exact vX_at g 1 hi6
        rw [← aP_acts (vQ h)]
        unfold aP
        rw [e1, e2] at hon ⊢
        rw [nI_clampI (vp_in_iff.mp (jpl_in hon)).1]
      -- the place is noted
      obtain ⟨g1, hg1⟩ : ∃ g1, g1 = up2 g 18 i (nI (aP (vS h) i)) := ⟨_, rfl⟩
      have s1 : vS g1 = aActs (vQ h) (vS h) i := by
        rw [← hS, hg1]
        unfold vS
        rw [vX_up2 _ (by decide), vX_up2 _ (by decide), vX_up2 _ (by decide), up2_n (by decide)]
      have q1 : vQ g1 = vQ h := by
        rw [← hQ, hg1]
        unfold vQ
        rw [vX_up2 _ (by decide), up2_n (by decide : ¬ 1 = 18)]
        have e : (fun r c : Nat => if r < 4 ∧ (c : Int) < (g 1 1).toInt then up2 g 18 i (nI (aP (vS h) i)) (6 + r) c else 0) = (fun r c : Nat => if r < 4 ∧ (c : Int) < (g 1 1).toInt then g (6 + r) c else 0) := by
          funext r c
          by_cases z : r < 4 ∧ (c : Int) < (g 1 1).toInt
          · rw [if_pos z, if_pos z, up2_n (by omega)]
          · rw [if_neg z, if_neg z]
        rw [e]
      have t1 : g1 3 = vB (aP (vS h)) (h 3) i := by rw [hg1, up2_n (by decide), h3]
      have f1 : frB h g1 := fun c c1 c2 c3 c4 => by rw [hg1, up2_n c4]; exact hfr c c1 c2 c3 c4
      have b1 : ∀ b, b < i + 1 → g1 18 b = nI (aP (vS h) b) := fun b hb => by
        rw [hg1, up2_s]
        by_cases e : b = i
        · subst e; rw [upd_s]
        · rw [upd_n e]; exact hbg b (by omega)
      have hvg1 : aVal (vQ g1) (vS g1) cnt := by rw [q1, s1]; exact hvk
      refine H2 80 _ _ _ _ _ _ ?_
      simp only [sg_X6_stepAhead_0, sg_X6_stepAhead_2, sg_X6_stepAhead_57, sg_X6_stepAhead_63, cd_X6_stepAhead, jwp, o_ic, o_lc, o_iload, o_lload, o_aload, o_istore, o_lstore, o_astore, o_iinc, o_pop, o_dup, o_dup2, o_iadd, o_isub, o_imul, o_iand, o_ior, o_ishl, o_ladd, o_lmul, o_land, o_lor, o_idiv, o_irem, o_ineg, o_i2l, o_l2i, o_i2b, o_i2s, o_lushr, o_lshr, o_lshl, o_lcmp, o_ifeq, o_ifne, o_iflt, o_ifge, o_ifgt, o_ifle, o_iceq, o_icne, o_iclt, o_icge, o_icgt, o_icle, o_goto, o_tsw, jsw, o_lsw, jlk, o_getf, o_putf, o_putz, o_iald, o_zald, o_iast, o_zast, o_aald, o_alen, o_gets, o_zld, o_zlen, o_cpy, o_call, o_callV, o_ireti, o_iretz, o_lret, o_vret, jg, js, jkp, jkill, jsp, jcs, jfw, jov, Value.category, Option.toList_some, Option.toList_none, List.nil_append, List.cons_append, List.append_nil, Nat.reduceAdd, true_and, and_true, jb0, jb01, jb1, jem, true_or, or_true, Classical.not_not, forall_const, List.length_cons, List.length_nil, Nat.reduceLeDiff, Nat.zero_le, Nat.reduceLT, hX, kx_0_0 hX, kx_0_1 hX, kx_0_2 hX, kx_0_3 hX, kx_0_4 hX, kx_0_5 hX, kx_0_6 hX, kx_0_7 hX, kx_0_8 hX, kxo_0 hX, kx_1_0 hX, kx_1_1 hX, kx_1_2 hX, kx_1_3 hX, kxo_1 hX, kx_4_0 hX, kx_4_1 hX, kx_4_2 hX, kxo_4 hX, kx_19_0 hX, kx_19_1 hX, kx_19_2 hX, kx_19_3 hX, kx_19_4 hX, kxo_19 hX, kx_24_0 hX, kx_24_1 hX, kx_24_2 hX, kx_24_3 hX, kx_24_4 hX, kx_24_5 hX, kx_24_6 hX, kxo_24 hX, kxa_2 hX, kxa_3 hX, kxa_6 hX, kxa_7 hX, kxa_8 hX, kxa_9 hX, kxa_10 hX, kxa_18 hX, kxa_20 hX, kxa_21 hX, kxa_22 hX, kxa_23 hX, kxa_26 hX, kxa_27 hX, kxr_5 hX, kxr_11 hX, kxr_28 hX, T_X6_placeOf, T_X6_act, T_X6_takeBackActs, nI_clamp hi31, kx_ants hi6, kxn_0 hX hai, kxn_1 hX hai, epl, ← hg1]
      rw [e07]
      refine ⟨fun q => absurd ((nI_leI (by omega) (by omega)).mp q) (by omega), fun _ => ⟨vp_in_nI hi6 (by decide), vp_in_nI hi6 (by decide), vp_in_nI hi6 (by decide), vp_in_nI hi6 (by decide), ⟨i, hi6, rfl⟩, vVal_fl hvg1, vVal_an hvg1 (by omega) hi6, fun q => ?_, fun q => ?_⟩⟩
      · have hok : aOK (vQ h) (aActs (vQ h) (vS h) i) i := by
          rw [v_Xn hvg1.1 (hvg1.2 i (by omega)) hi6, v_Yn hvg1.1 (hvg1.2 i (by omega)) hi6, q1, s1] at q
          exact q
        refine ⟨fun _ => ?_, fun z => absurd z (by decide)⟩
        rw [nI_1]
        refine ih (i + 1) (by omega) (fun j hj => ?_) _ ?_ ?_ ?_ ?_ ?_
        · by_cases e : j = i
          · rw [e]; exact hok
          · exact hall j (by omega)
        · rw [vS_act hvg1.1 (hvg1.2 i (by omega)) hi6, q1, s1]; rfl
        · rw [act_3 g1 hi6, s1, aP_acts, t1]; rfl
        · rw [vQ_act g1 hi6, q1]
        · exact fun c c1 c2 c3 c4 => (act_fr g1 hi6 c c1 c2 c3).trans (f1 c c1 c2 c3 c4)
        · exact fun b hb => by rw [act_fr g1 hi6 18 (by decide) (by decide) (by decide)]; exact b1 b hb
      · have hno : ¬ aAll (vQ h) (vS h) cnt := fun z => by
          have := z i (by omega)
          apply q
          rw [v_Xn hvg1.1 (hvg1.2 i (by omega)) hi6, v_Yn hvg1.1 (hvg1.2 i (by omega)) hi6, q1, s1]
          exact this
        refine ⟨fun z => (z trivial).elim, ⟨i, cnt, vS h, h 3, by omega, hc6, rfl, by rw [q1]; exact hv, by rw [q1]; exact hall, by rw [q1]; exact s1, t1, fun g2 r1 r2 r3 r4 => ?_⟩⟩
        exact hT0 hno g2 r1 r2 (r3.trans q1) (fun c c1 c2 c3 c4 => (r4 c c1 c2 c3).trans (f1 c c1 c2 c3 c4))
  refine H0 60 _ _ _ _ _ _ ?_
  simp only [sg_X6_stepAhead_0, sg_X6_stepAhead_2, sg_X6_stepAhead_57, sg_X6_stepAhead_63, cd_X6_stepAhead, jwp, o_ic, o_lc, o_iload, o_lload, o_aload, o_istore, o_lstore, o_astore, o_iinc, o_pop, o_dup, o_dup2, o_iadd, o_isub, o_imul, o_iand, o_ior, o_ishl, o_ladd, o_lmul, o_land, o_lor, o_idiv, o_irem, o_ineg, o_i2l, o_l2i, o_i2b, o_i2s, o_lushr, o_lshr, o_lshl, o_lcmp, o_ifeq, o_ifne, o_iflt, o_ifge, o_ifgt, o_ifle, o_iceq, o_icne, o_iclt, o_icge, o_icgt, o_icle, o_goto, o_tsw, jsw, o_lsw, jlk, o_getf, o_putf, o_putz, o_iald, o_zald, o_iast, o_zast, o_aald, o_alen, o_gets, o_zld, o_zlen, o_cpy, o_call, o_callV, o_ireti, o_iretz, o_lret, o_vret, jg, js, jkp, jkill, jsp, jcs, jfw, jov, Value.category, Option.toList_some, Option.toList_none, List.nil_append, List.cons_append, List.append_nil, Nat.reduceAdd, true_and, and_true, jb0, jb01, jb1, jem, true_or, or_true, Classical.not_not, forall_const, List.length_cons, List.length_nil, Nat.reduceLeDiff, Nat.zero_le, Nat.reduceLT, hX, kx_0_0 hX, kx_0_1 hX, kx_0_2 hX, kx_0_3 hX, kx_0_4 hX, kx_0_5 hX, kx_0_6 hX, kx_0_7 hX, kx_0_8 hX, kxo_0 hX, kx_1_0 hX, kx_1_1 hX, kx_1_2 hX, kx_1_3 hX, kxo_1 hX, kx_4_0 hX, kx_4_1 hX, kx_4_2 hX, kxo_4 hX, kx_19_0 hX, kx_19_1 hX, kx_19_2 hX, kx_19_3 hX, kx_19_4 hX, kxo_19 hX, kx_24_0 hX, kx_24_1 hX, kx_24_2 hX, kx_24_3 hX, kx_24_4 hX, kx_24_5 hX, kx_24_6 hX, kxo_24 hX, kxa_2 hX, kxa_3 hX, kxa_6 hX, kxa_7 hX, kxa_8 hX, kxa_9 hX, kxa_10 hX, kxa_18 hX, kxa_20 hX, kxa_21 hX, kxa_22 hX, kxa_23 hX, kxa_26 hX, kxa_27 hX, kxr_5 hX, kxr_11 hX, kxr_28 hX]
  exact loop cnt 0 (by omega) (fun j hj => by omega) h rfl rfl rfl (fun _ _ _ _ _ => rfl) (fun b hb => by omega)
theorem m_X6_stepAhead (l : Launch) : jHolds vwCl l yX6_stepAhead wsX6_stepAhead 4 91 0 0 T_X6_stepAhead := by
  refine m_X6_stepAhead_of l (fun G Q vs K h H0 H2 hT => ?_)
  unfold T_X6_stepAhead at hT
  split at hT
  · obtain ⟨rfl, hT⟩ := hT
    exact ⟨Nat.le_of_ble_eq_true rfl, v_X6_stepAhead hT H0 H2⟩
  · exact hT.elim

/-! X6_stepBack -/
def T_X6_stepBack : jT := fun vs K h Q => match vs with
  | [.ref r0] => r0 = 0 ∧ (jX K ∧ (∃ cnt : Nat, cnt ≤ 6 ∧ h 0 7 = nI cnt ∧ aVal (vQ h) (vS h) cnt ∧ (aBAll (vQ h) (vS h) cnt → ∀ g, vS g = aBks (vQ h) (vS h) cnt cnt → g 3 = vL (aBPl (vQ h) (vS h) cnt) (h 3) cnt cnt → vQ g = vQ h → frS h g → Q (some (.int 1)) K (up2 (up2 g 0 8 (g 0 8 - 1)) 24 1 1)) ∧ (¬ aBAll (vQ h) (vS h) cnt → ∀ g, vS g = vS h → g 3 = h 3 → vQ g = vQ h → frS h g → Q (some (.int 0)) K g)))
  | _ => False
def sg_X6_stepBack_0 : jS := [(o_aload 0, 1), (o_getf 6 7, 3), (o_ic (1), 1), (o_isub, 1), (o_istore 1, 1)]
def sg_X6_stepBack_7 : jS := [(o_iload 1, 1), (o_iflt 39, 3), (o_aload 0, 1), (o_aload 0, 1), (o_getf 6 2, 3), (o_iload 1, 1), (o_aald 2, 1), (o_callV 2 6 T_X6_actBack, 3), (o_ifne 33, 3), (o_aload 0, 1), (o_iload 1, 1), (o_ic (1), 1), (o_iadd, 1), (o_callV 2 6 T_X6_redoActs, 3), (o_ic (0), 1), (o_iretz, 1)]
def sg_X6_stepBack_33 : jS := [(o_iinc 1 (-1), 3), (o_goto 7, 3)]
def sg_X6_stepBack_39 : jS := [(o_aload 0, 1), (o_dup, 1), (o_getf 6 8, 3), (o_ic (1), 1), (o_isub, 1), (o_putf 6 8, 3), (o_aload 0, 1), (o_getf 6 5, 3), (o_callV 1 2 T_X2_spoil, 3), (o_ic (1), 1), (o_iretz, 1)]
def cd_X6_stepBack : Nat → jS := fun t => match t with
  | 33 => sg_X6_stepBack_33
  | 39 => sg_X6_stepBack_39
  | _ => []
theorem wl_X6_stepBack_25 : Cond.fieldLink RX6 25 (TX6 2).1 (TX6 2).2.1 (TX6 2).2.2.1 ∈ wsX6_stepBack := by decide +kernel
theorem wl_X6_stepBack_44 : Cond.fieldLink RX6 44 (TX6 5).1 (TX6 5).2.1 (TX6 5).2.2.1 ∈ wsX6_stepBack := by decide +kernel
theorem wl_X6_stepBack_67 : Cond.fieldLink RX6 67 (TX6 7).1 (TX6 7).2.1 (TX6 7).2.2.1 ∈ wsX6_stepBack := by decide +kernel
theorem wl_X6_stepBack_76 : Cond.fieldLink RX6 76 (TX6 8).1 (TX6 8).2.1 (TX6 8).2.2.1 ∈ wsX6_stepBack := by decide +kernel
theorem wi_X6_stepBack_X6 : ∀ w ∈ u_ws RX6 TX6 9, w ∈ wsX6_stepBack := by decide +kernel
def E_X6_stepBack (Γ : jΓ) (Q : jPost) : Prop := Γ.2.2.2.2.2.2.2.2.2.2.1 = 2 ∧ Γ.2.2.2.2.2.2.2.2.2.2.2.1 = vwCl ∧ jC Γ cX6_stepBack RX6 "stepBack" (some .boolean) wsX6_stepBack 4 91 0 0 ∧ jR Γ Q 0 0
theorem oo_X6_stepBack_0 {Γ : jΓ} {Q : jPost} (E : E_X6_stepBack Γ Q) : jSA Γ Q 0 (o_aload 0) 1 := so_aload_n E.2.2.1 rfl dX6_stepBack_0
theorem oo_X6_stepBack_1 {Γ : jΓ} {Q : jPost} (E : E_X6_stepBack Γ Q) : jSA Γ Q 1 (o_getf 6 7) 3 := so_getf (ci := 6) E.2.2.1 wi_X6_stepBack_X6 (by rw [E.2.1]; rfl) 7 (by decide) wl_X6_stepBack_67 dX6_stepBack_1
theorem oo_X6_stepBack_4 {Γ : jΓ} {Q : jPost} (E : E_X6_stepBack Γ Q) : jSA Γ Q 4 (o_ic (1)) 1 := so_iconst E.2.2.1 rfl dX6_stepBack_4
theorem oo_X6_stepBack_5 {Γ : jΓ} {Q : jPost} (E : E_X6_stepBack Γ Q) : jSA Γ Q 5 (o_isub) 1 := so_isub E.2.2.1 dX6_stepBack_5
theorem oo_X6_stepBack_6 {Γ : jΓ} {Q : jPost} (E : E_X6_stepBack Γ Q) : jSA Γ Q 6 (o_istore 1) 1 := so_istore_n E.2.2.1 rfl (by rw [E.1]; decide) dX6_stepBack_6
theorem oo_X6_stepBack_7 {Γ : jΓ} {Q : jPost} (E : E_X6_stepBack Γ Q) : jSA Γ Q 7 (o_iload 1) 1 := so_iload_n E.2.2.1 rfl dX6_stepBack_7
theorem oo_X6_stepBack_8 {Γ : jΓ} {Q : jPost} (E : E_X6_stepBack Γ Q) : jSA Γ Q 8 (o_iflt 39) 3 := so_iflt E.2.2.1 (by decide) dX6_stepBack_8
theorem oo_X6_stepBack_11 {Γ : jΓ} {Q : jPost} (E : E_X6_stepBack Γ Q) : jSA Γ Q 11 (o_aload 0) 1 := so_aload_n E.2.2.1 rfl dX6_stepBack_11
theorem oo_X6_stepBack_12 {Γ : jΓ} {Q : jPost} (E : E_X6_stepBack Γ Q) : jSA Γ Q 12 (o_aload 0) 1 := so_aload_n E.2.2.1 rfl dX6_stepBack_12
theorem oo_X6_stepBack_13 {Γ : jΓ} {Q : jPost} (E : E_X6_stepBack Γ Q) : jSA Γ Q 13 (o_getf 6 2) 3 := so_getf (ci := 6) E.2.2.1 wi_X6_stepBack_X6 (by rw [E.2.1]; rfl) 2 (by decide) wl_X6_stepBack_25 dX6_stepBack_13
theorem oo_X6_stepBack_16 {Γ : jΓ} {Q : jPost} (E : E_X6_stepBack Γ Q) : jSA Γ Q 16 (o_iload 1) 1 := so_iload_n E.2.2.1 rfl dX6_stepBack_16
theorem oo_X6_stepBack_17 {Γ : jΓ} {Q : jPost} (E : E_X6_stepBack Γ Q) : jSA Γ Q 17 (o_aald 2) 1 := so_aald2 E.2.2.1 dX6_stepBack_17
theorem oo_X6_stepBack_18 {Γ : jΓ} {Q : jPost} (E : E_X6_stepBack Γ Q) : jSA Γ Q 18 (o_callV 2 6 T_X6_actBack) 3 := so_callV E.2.2.1 (ci := 6) (by rw [E.2.1]; rfl) gX6_stepBack_X6_actBack (by decide +kernel) rfl (by rw [E.2.1]; exact m_X6_actBack _) (by decide) (by decide) dX6_stepBack_18
theorem oo_X6_stepBack_21 {Γ : jΓ} {Q : jPost} (E : E_X6_stepBack Γ Q) : jSA Γ Q 21 (o_ifne 33) 3 := so_ifne E.2.2.1 (by decide) dX6_stepBack_21
theorem oo_X6_stepBack_24 {Γ : jΓ} {Q : jPost} (E : E_X6_stepBack Γ Q) : jSA Γ Q 24 (o_aload 0) 1 := so_aload_n E.2.2.1 rfl dX6_stepBack_24
theorem oo_X6_stepBack_25 {Γ : jΓ} {Q : jPost} (E : E_X6_stepBack Γ Q) : jSA Γ Q 25 (o_iload 1) 1 := so_iload_n E.2.2.1 rfl dX6_stepBack_25
theorem oo_X6_stepBack_26 {Γ : jΓ} {Q : jPost} (E : E_X6_stepBack Γ Q) : jSA Γ Q 26 (o_ic (1)) 1 := so_iconst E.2.2.1 rfl dX6_stepBack_26
theorem oo_X6_stepBack_27 {Γ : jΓ} {Q : jPost} (E : E_X6_stepBack Γ Q) : jSA Γ Q 27 (o_iadd) 1 := so_iadd E.2.2.1 dX6_stepBack_27
theorem oo_X6_stepBack_28 {Γ : jΓ} {Q : jPost} (E : E_X6_stepBack Γ Q) : jSA Γ Q 28 (o_callV 2 6 T_X6_redoActs) 3 := so_callV E.2.2.1 (ci := 6) (by rw [E.2.1]; rfl) gX6_stepBack_X6_redoActs (by decide +kernel) rfl (by rw [E.2.1]; exact m_X6_redoActs _) (by decide) (by decide) dX6_stepBack_28
theorem oo_X6_stepBack_31 {Γ : jΓ} {Q : jPost} (E : E_X6_stepBack Γ Q) : jSA Γ Q 31 (o_ic (0)) 1 := so_iconst E.2.2.1 rfl dX6_stepBack_31
theorem oo_X6_stepBack_32 {Γ : jΓ} {Q : jPost} (E : E_X6_stepBack Γ Q) : jSA Γ Q 32 (o_iretz) 1 := so_iretz E.2.2.1 E.2.2.2 dX6_stepBack_32
theorem oo_X6_stepBack_33 {Γ : jΓ} {Q : jPost} (E : E_X6_stepBack Γ Q) : jSA Γ Q 33 (o_iinc 1 (-1)) 3 := so_iinc E.2.2.1 rfl (by rw [E.1]; decide) dX6_stepBack_33
theorem oo_X6_stepBack_36 {Γ : jΓ} {Q : jPost} (E : E_X6_stepBack Γ Q) : jSA Γ Q 36 (o_goto 7) 3 := so_goto E.2.2.1 (by decide) dX6_stepBack_36
theorem oo_X6_stepBack_39 {Γ : jΓ} {Q : jPost} (E : E_X6_stepBack Γ Q) : jSA Γ Q 39 (o_aload 0) 1 := so_aload_n E.2.2.1 rfl dX6_stepBack_39
theorem oo_X6_stepBack_40 {Γ : jΓ} {Q : jPost} (E : E_X6_stepBack Γ Q) : jSA Γ Q 40 (o_dup) 1 := so_dup E.2.2.1 dX6_stepBack_40
theorem oo_X6_stepBack_41 {Γ : jΓ} {Q : jPost} (E : E_X6_stepBack Γ Q) : jSA Γ Q 41 (o_getf 6 8) 3 := so_getf (ci := 6) E.2.2.1 wi_X6_stepBack_X6 (by rw [E.2.1]; rfl) 8 (by decide) wl_X6_stepBack_76 dX6_stepBack_41
theorem oo_X6_stepBack_44 {Γ : jΓ} {Q : jPost} (E : E_X6_stepBack Γ Q) : jSA Γ Q 44 (o_ic (1)) 1 := so_iconst E.2.2.1 rfl dX6_stepBack_44
theorem oo_X6_stepBack_45 {Γ : jΓ} {Q : jPost} (E : E_X6_stepBack Γ Q) : jSA Γ Q 45 (o_isub) 1 := so_isub E.2.2.1 dX6_stepBack_45
theorem oo_X6_stepBack_46 {Γ : jΓ} {Q : jPost} (E : E_X6_stepBack Γ Q) : jSA Γ Q 46 (o_putf 6 8) 3 := so_putf (ci := 6) E.2.2.1 tyX6 tyX6_ok nmX6 wi_X6_stepBack_X6 (by rw [E.2.1]; rfl) 8 (by decide) wl_X6_stepBack_76 rfl (by decide +kernel) dX6_stepBack_46
theorem oo_X6_stepBack_49 {Γ : jΓ} {Q : jPost} (E : E_X6_stepBack Γ Q) : jSA Γ Q 49 (o_aload 0) 1 := so_aload_n E.2.2.1 rfl dX6_stepBack_49
theorem oo_X6_stepBack_50 {Γ : jΓ} {Q : jPost} (E : E_X6_stepBack Γ Q) : jSA Γ Q 50 (o_getf 6 5) 3 := so_getf (ci := 6) E.2.2.1 wi_X6_stepBack_X6 (by rw [E.2.1]; rfl) 5 (by decide) wl_X6_stepBack_44 dX6_stepBack_50
theorem oo_X6_stepBack_53 {Γ : jΓ} {Q : jPost} (E : E_X6_stepBack Γ Q) : jSA Γ Q 53 (o_callV 1 2 T_X2_spoil) 3 := so_callV E.2.2.1 (ci := 2) (by rw [E.2.1]; rfl) gX6_stepBack_X2_spoil (by decide +kernel) rfl (by rw [E.2.1]; exact m_X2_spoil _) (by decide) (by decide) dX6_stepBack_53
theorem oo_X6_stepBack_56 {Γ : jΓ} {Q : jPost} (E : E_X6_stepBack Γ Q) : jSA Γ Q 56 (o_ic (1)) 1 := so_iconst E.2.2.1 rfl dX6_stepBack_56
theorem oo_X6_stepBack_57 {Γ : jΓ} {Q : jPost} (E : E_X6_stepBack Γ Q) : jSA Γ Q 57 (o_iretz) 1 := so_iretz E.2.2.1 E.2.2.2 dX6_stepBack_57
theorem ok_X6_stepBack_0 {Γ : jΓ} {Q : jPost} (E : E_X6_stepBack Γ Q) : jSS Γ Q 0 sg_X6_stepBack_0 := ⟨oo_X6_stepBack_0 E, oo_X6_stepBack_1 E, oo_X6_stepBack_4 E, oo_X6_stepBack_5 E, oo_X6_stepBack_6 E, trivial⟩
theorem ok_X6_stepBack_7 {Γ : jΓ} {Q : jPost} (E : E_X6_stepBack Γ Q) : jSS Γ Q 7 sg_X6_stepBack_7 := ⟨oo_X6_stepBack_7 E, oo_X6_stepBack_8 E, oo_X6_stepBack_11 E, oo_X6_stepBack_12 E, oo_X6_stepBack_13 E, oo_X6_stepBack_16 E, oo_X6_stepBack_17 E, oo_X6_stepBack_18 E, oo_X6_stepBack_21 E, oo_X6_stepBack_24 E, oo_X6_stepBack_25 E, oo_X6_stepBack_26 E, oo_X6_stepBack_27 E, oo_X6_stepBack_28 E, oo_X6_stepBack_31 E, oo_X6_stepBack_32 E, trivial⟩
theorem ok_X6_stepBack_33 {Γ : jΓ} {Q : jPost} (E : E_X6_stepBack Γ Q) : jSS Γ Q 33 sg_X6_stepBack_33 := ⟨oo_X6_stepBack_33 E, oo_X6_stepBack_36 E, trivial⟩
theorem ok_X6_stepBack_39 {Γ : jΓ} {Q : jPost} (E : E_X6_stepBack Γ Q) : jSS Γ Q 39 sg_X6_stepBack_39 := ⟨oo_X6_stepBack_39 E, oo_X6_stepBack_40 E, oo_X6_stepBack_41 E, oo_X6_stepBack_44 E, oo_X6_stepBack_45 E, oo_X6_stepBack_46 E, oo_X6_stepBack_49 E, oo_X6_stepBack_50 E, oo_X6_stepBack_53 E, oo_X6_stepBack_56 E, oo_X6_stepBack_57 E, trivial⟩
theorem okc_X6_stepBack {Γ : jΓ} {Q : jPost} (E : E_X6_stepBack Γ Q) (t : Nat) : jSS Γ Q t (cd_X6_stepBack t) := by
  unfold cd_X6_stepBack
  split
  · exact ok_X6_stepBack_33 E
  · exact ok_X6_stepBack_39 E
  · trivial
theorem m_X6_stepBack_of (l : Launch) (hv : ∀ (G : jGt) (Q : jPost) (vs : List Value) (K : List jK) (h : jM), jHd cd_X6_stepBack G Q sg_X6_stepBack_0 0 → jHd cd_X6_stepBack G Q sg_X6_stepBack_7 7 → T_X6_stepBack vs K h Q → (lg_sl vs).length ≤ 2 ∧ G 0 (jinit vs 2) [] K h 0 0) : jHolds vwCl l yX6_stepBack wsX6_stepBack 4 91 0 0 T_X6_stepBack := by
  refine jMet (cc := cX6_stepBack) (maxL := 2) (rt := (some .boolean)) (by decide +kernel) rfl (fun Γ Q vs K h hl hn hcl C hR hT => hv (jG Γ) Q vs K h ?_ ?_ hT)
  · exact fun n L st K h ce sl => jwp_ok (okc_X6_stepBack ⟨hn, hcl, C, hR⟩) n sg_X6_stepBack_0 0 (ok_X6_stepBack_0 ⟨hn, hcl, C, hR⟩) L st K h ce sl
  · exact fun n L st K h ce sl => jwp_ok (okc_X6_stepBack ⟨hn, hcl, C, hR⟩) n sg_X6_stepBack_7 7 (ok_X6_stepBack_7 ⟨hn, hcl, C, hR⟩) L st K h ce sl
set_option maxHeartbeats 4000000 in
set_option maxRecDepth 100000 in
theorem v_X6_stepBack {G : jGt} {Q : jPost} {K : List jK} {h : jM}  (hT : jX K ∧ (∃ cnt : Nat, cnt ≤ 6 ∧ h 0 7 = nI cnt ∧ aVal (vQ h) (vS h) cnt ∧ (aBAll (vQ h) (vS h) cnt → ∀ g, vS g = aBks (vQ h) (vS h) cnt cnt → g 3 = vL (aBPl (vQ h) (vS h) cnt) (h 3) cnt cnt → vQ g = vQ h → frS h g → Q (some (.int 1)) K (up2 (up2 g 0 8 (g 0 8 - 1)) 24 1 1)) ∧ (¬ aBAll (vQ h) (vS h) cnt → ∀ g, vS g = vS h → g 3 = h 3 → vQ g = vQ h → frS h g → Q (some (.int 0)) K g))) (H0 : jHd cd_X6_stepBack G Q sg_X6_stepBack_0 0) (H7 : jHd cd_X6_stepBack G Q sg_X6_stepBack_7 7) : G 0 [some (.ref 0), none] [] K h 0 0 := by
  obtain ⟨hX, cnt, hc6, hcnt, hv, hT1, hT0⟩ := hT
  have loop : ∀ n k, k + n = cnt → (∀ j, j < k → aBOK (vQ h) (aBks (vQ h) (vS h) cnt j) (cnt - 1 - j)) → ∀ g, vS g = aBks (vQ h) (vS h) cnt k → g 3 = vL (aBPl (vQ h) (vS h) cnt) (h 3) cnt k → vQ g = vQ h → frS h g → G 7 [some (.ref 0), some (.int (nI (cnt - k) + -1))] [] K g 0 0 := by
    intro n
    induction n with
    | zero =>
      intro k hk hall g hS h3 hQ hfr
      have : k = cnt := by omega
      subst this
      rw [Nat.sub_self, nI_neg1]
      refine H7 80 _ _ _ _ _ _ ?_
      simp only [sg_X6_stepBack_0, sg_X6_stepBack_7, sg_X6_stepBack_33, sg_X6_stepBack_39, cd_X6_stepBack, jwp, o_ic, o_lc, o_iload, o_lload, o_aload, o_istore, o_lstore, o_astore, o_iinc, o_pop, o_dup, o_dup2, o_iadd, o_isub, o_imul, o_iand, o_ior, o_ishl, o_ladd, o_lmul, o_land, o_lor, o_idiv, o_irem, o_ineg, o_i2l, o_l2i, o_i2b, o_i2s, o_lushr, o_lshr, o_lshl, o_lcmp, o_ifeq, o_ifne, o_iflt, o_ifge, o_ifgt, o_ifle, o_iceq, o_icne, o_iclt, o_icge, o_icgt, o_icle, o_goto, o_tsw, jsw, o_lsw, jlk, o_getf, o_putf, o_putz, o_iald, o_zald, o_iast, o_zast, o_aald, o_alen, o_gets, o_zld, o_zlen, o_cpy, o_call, o_callV, o_ireti, o_iretz, o_lret, o_vret, jg, js, jkp, jkill, jsp, jcs, jfw, jov, Value.category, Option.toList_some, Option.toList_none, List.nil_append, List.cons_append, List.append_nil, Nat.reduceAdd, true_and, and_true, jb0, jb01, jb1, jem, true_or, or_true, Classical.not_not, forall_const, List.length_cons, List.length_nil, Nat.reduceLeDiff, Nat.zero_le, Nat.reduceLT, hX, kx_0_0 hX, kx_0_1 hX, kx_0_2 hX, kx_0_3 hX, kx_0_4 hX, kx_0_5 hX, kx_0_6 hX, kx_0_7 hX, kx_0_8 hX, kxo_0 hX, kx_1_0 hX, kx_1_1 hX, kx_1_2 hX, kx_1_3 hX, kxo_1 hX, kx_4_0 hX, kx_4_1 hX, kx_4_2 hX, kxo_4 hX, kx_19_0 hX, kx_19_1 hX, kx_19_2 hX, kx_19_3 hX, kx_19_4 hX, kxo_19 hX, kx_24_0 hX, kx_24_1 hX, kx_24_2 hX, kx_24_3 hX, kx_24_4 hX, kx_24_5 hX, kx_24_6 hX, kxo_24 hX, kxa_2 hX, kxa_3 hX, kxa_6 hX, kxa_7 hX, kxa_8 hX, kxa_9 hX, kxa_10 hX, kxa_18 hX, kxa_20 hX, kxa_21 hX, kxa_22 hX, kxa_23 hX, kxa_26 hX, kxa_27 hX, kxr_5 hX, kxr_11 hX, kxr_28 hX, T_X6_actBack, T_X6_redoActs, T_X2_spoil]
      exact ⟨fun _ => hT1 hall g hS h3 hQ hfr, fun q => absurd (by decide) q⟩
    | succ n ih =>
      intro k hk hall g hS h3 hQ hfr
      have ek : cnt - k = (cnt - 1 - k) + 1 := by omega
      have ek2 : cnt - 1 - k = cnt - (k + 1) := by omega
      have hi6 : cnt - 1 - k < 6 := by omega
      have hi31 : cnt - 1 - k < 2147483648 := by omega
      have hvk := aVal_bks hv k (by omega) hall
      have hvg : aVal (vQ g) (vS g) cnt := by rw [hQ, hS]; exact hvk
      refine H7 80 _ _ _ _ _ _ ?_
      simp only [sg_X6_stepBack_0, sg_X6_stepBack_7, sg_X6_stepBack_33, sg_X6_stepBack_39, cd_X6_stepBack, jwp, o_ic, o_lc, o_iload, o_lload, o_aload, o_istore, o_lstore, o_astore, o_iinc, o_pop, o_dup, o_dup2, o_iadd, o_isub, o_imul, o_iand, o_ior, o_ishl, o_ladd, o_lmul, o_land, o_lor, o_idiv, o_irem, o_ineg, o_i2l, o_l2i, o_i2b, o_i2s, o_lushr, o_lshr, o_lshl, o_lcmp, o_ifeq, o_ifne, o_iflt, o_ifge, o_ifgt, o_ifle, o_iceq, o_icne, o_iclt, o_icge, o_icgt, o_icle, o_goto, o_tsw, jsw, o_lsw, jlk, o_getf, o_putf, o_putz, o_iald, o_zald, o_iast, o_zast, o_aald, o_alen, o_gets, o_zld, o_zlen, o_cpy, o_call, o_callV, o_ireti, o_iretz, o_lret, o_vret, jg, js, jkp, jkill, jsp, jcs, jfw, jov, Value.category, Option.toList_some, Option.toList_none, List.nil_append, List.cons_append, List.append_nil, Nat.reduceAdd, true_and, and_true, jb0, jb01, jb1, jem, true_or, or_true, Classical.not_not, forall_const, List.length_cons, List.length_nil, Nat.reduceLeDiff, Nat.zero_le, Nat.reduceLT, hX, kx_0_0 hX, kx_0_1 hX, kx_0_2 hX, kx_0_3 hX, kx_0_4 hX, kx_0_5 hX, kx_0_6 hX, kx_0_7 hX, kx_0_8 hX, kxo_0 hX, kx_1_0 hX, kx_1_1 hX, kx_1_2 hX, kx_1_3 hX, kxo_1 hX, kx_4_0 hX, kx_4_1 hX, kx_4_2 hX, kxo_4 hX, kx_19_0 hX, kx_19_1 hX, kx_19_2 hX, kx_19_3 hX, kx_19_4 hX, kxo_19 hX, kx_24_0 hX, kx_24_1 hX, kx_24_2 hX, kx_24_3 hX, kx_24_4 hX, kx_24_5 hX, kx_24_6 hX, kxo_24 hX, kxa_2 hX, kxa_3 hX, kxa_6 hX, kxa_7 hX, kxa_8 hX, kxa_9 hX, kxa_10 hX, kxa_18 hX, kxa_20 hX, kxa_21 hX, kxa_22 hX, kxa_23 hX, kxa_26 hX, kxa_27 hX, kxr_5 hX, kxr_11 hX, kxr_28 hX, T_X6_actBack, T_X6_redoActs, T_X2_spoil, ek, nI_m1, nI_clamp hi31, kx_ants hi6]
      refine ⟨fun q => absurd q (nI_pos hi31), fun _ => ⟨vp_in_nI hi6 (by decide), ⟨_, hi6, rfl⟩, vVal_fl hvg, vVal_an hvg (by omega) hi6, fun q => ?_, fun q => ?_⟩⟩
      · have hb : aBOK (vQ g) (vS g) (cnt - 1 - k) := by
          rw [v_BX g hi6, v_BY g hi6] at q
          exact q
        have hok : aBOK (vQ h) (aBks (vQ h) (vS h) cnt k) (cnt - 1 - k) := by rw [hQ, hS] at hb; exact hb
        refine ⟨fun _ => ?_, fun z => absurd z (by decide)⟩
        rw [ek2]
        have h9 := ih (k + 1) (by omega) (fun j hj => by
          by_cases e : j = k
          · rw [e]; exact hok
          · exact hall j (by omega)) (cBackM g (12 + (cnt - (k + 1)))) ?_ ?_ ?_ ?_
        · exact h9
        · rw [← ek2, vS_back hvg.1 (hvg.2 _ (by omega)) hb hi6, hQ, hS]; rfl
        · rw [← ek2, back_3 g hi6, hQ, hS, h3]
          have e : aBP (vQ h) (aBks (vQ h) (vS h) cnt k) (cnt - 1 - k) = aBPl (vQ h) (vS h) cnt (cnt - 1 - k) := by
            unfold aBPl
            rw [show cnt - 1 - (cnt - 1 - k) = k by omega]
          rw [e]; rfl
        · rw [← ek2, vQ_back g hi6, hQ]
        · rw [← ek2]; exact frS_tr hfr (back_fr g hi6)
      · have hno : ¬ aBAll (vQ h) (vS h) cnt := fun z => by
          have h9 := z k (by omega)
          apply q
          rw [v_BX g hi6, v_BY g hi6, hQ, hS]
          exact h9
        refine ⟨fun z => (z trivial).elim, ⟨k, cnt, vS h, h 3, by omega, hc6, by rw [hfr 0 (by decide) (by decide) (by decide), hcnt], by rw [nI_1, ek], by rw [hQ]; exact hv, by rw [hQ]; exact hall, by rw [hQ]; exact hS, by rw [hQ]; exact h3, fun g2 r1 r2 r3 r4 => ?_⟩⟩
        exact hT0 hno g2 r1 r2 (r3.trans hQ) (frS_tr hfr r4)
  refine H0 60 _ _ _ _ _ _ ?_
  simp only [sg_X6_stepBack_0, sg_X6_stepBack_7, sg_X6_stepBack_33, sg_X6_stepBack_39, cd_X6_stepBack, jwp, o_ic, o_lc, o_iload, o_lload, o_aload, o_istore, o_lstore, o_astore, o_iinc, o_pop, o_dup, o_dup2, o_iadd, o_isub, o_imul, o_iand, o_ior, o_ishl, o_ladd, o_lmul, o_land, o_lor, o_idiv, o_irem, o_ineg, o_i2l, o_l2i, o_i2b, o_i2s, o_lushr, o_lshr, o_lshl, o_lcmp, o_ifeq, o_ifne, o_iflt, o_ifge, o_ifgt, o_ifle, o_iceq, o_icne, o_iclt, o_icge, o_icgt, o_icle, o_goto, o_tsw, jsw, o_lsw, jlk, o_getf, o_putf, o_putz, o_iald, o_zald, o_iast, o_zast, o_aald, o_alen, o_gets, o_zld, o_zlen, o_cpy, o_call, o_callV, o_ireti, o_iretz, o_lret, o_vret, jg, js, jkp, jkill, jsp, jcs, jfw, jov, Value.category, Option.toList_some, Option.toList_none, List.nil_append, List.cons_append, List.append_nil, Nat.reduceAdd, true_and, and_true, jb0, jb01, jb1, jem, true_or, or_true, Classical.not_not, forall_const, List.length_cons, List.length_nil, Nat.reduceLeDiff, Nat.zero_le, Nat.reduceLT, hX, kx_0_0 hX, kx_0_1 hX, kx_0_2 hX, kx_0_3 hX, kx_0_4 hX, kx_0_5 hX, kx_0_6 hX, kx_0_7 hX, kx_0_8 hX, kxo_0 hX, kx_1_0 hX, kx_1_1 hX, kx_1_2 hX, kx_1_3 hX, kxo_1 hX, kx_4_0 hX, kx_4_1 hX, kx_4_2 hX, kxo_4 hX, kx_19_0 hX, kx_19_1 hX, kx_19_2 hX, kx_19_3 hX, kx_19_4 hX, kxo_19 hX, kx_24_0 hX, kx_24_1 hX, kx_24_2 hX, kx_24_3 hX, kx_24_4 hX, kx_24_5 hX, kx_24_6 hX, kxo_24 hX, kxa_2 hX, kxa_3 hX, kxa_6 hX, kxa_7 hX, kxa_8 hX, kxa_9 hX, kxa_10 hX, kxa_18 hX, kxa_20 hX, kxa_21 hX, kxa_22 hX, kxa_23 hX, kxa_26 hX, kxa_27 hX, kxr_5 hX, kxr_11 hX, kxr_28 hX]
  rw [hcnt, Int32.sub_eq_add_neg]
  have h9 := loop cnt 0 (by omega) (fun j hj => by omega) h rfl rfl rfl (frS_rf h)
  rw [Nat.sub_zero] at h9
  exact h9
theorem m_X6_stepBack (l : Launch) : jHolds vwCl l yX6_stepBack wsX6_stepBack 4 91 0 0 T_X6_stepBack := by
  refine m_X6_stepBack_of l (fun G Q vs K h H0 H7 hT => ?_)
  unfold T_X6_stepBack at hT
  split at hT
  · obtain ⟨rfl, hT⟩ := hT
    exact ⟨Nat.le_of_ble_eq_true rfl, v_X6_stepBack hT H0 H7⟩
  · exact hT.elim
