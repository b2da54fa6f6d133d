/-! ===== sheets of the reference ===== -/
def mlow (l : Int32) (v : Int32) : Int32 := if l = 0 then v.toInt8.toInt32 else if l = 1 then v.toInt16.toInt32 else v

/-! X7_isSheet -/
def T_X7_isSheet : jT := fun vs K h Q => match vs with
  | [.int s] => (Q (some (.int (jb (0 ≤ s ∧ s ≤ 3)))) K h)
  | _ => False
def sg_X7_isSheet_0 : jS := [(o_iload 0, 1), (o_ic (0), 1), (o_ic (3), 1), (o_call 3 T_X7_in, 3), (o_iretz, 1)]
def cd_X7_isSheet : Nat → jS := fun t => match t with
  | _ => []
def E_X7_isSheet (Γ : jΓ) (Q : jPost) : Prop := Γ.2.2.2.2.2.2.2.2.2.2.1 = 1 ∧ Γ.2.2.2.2.2.2.2.2.2.2.2.1 = vwCl ∧ jC Γ cX7_isSheet RX7 "isSheet" (some .boolean) wsX7_isSheet 1 22 0 0 ∧ jR Γ Q 0 0
theorem oo_X7_isSheet_0 {Γ : jΓ} {Q : jPost} (E : E_X7_isSheet Γ Q) : jSA Γ Q 0 (o_iload 0) 1 := so_iload_n E.2.2.1 rfl dX7_isSheet_0
theorem oo_X7_isSheet_1 {Γ : jΓ} {Q : jPost} (E : E_X7_isSheet Γ Q) : jSA Γ Q 1 (o_ic (0)) 1 := so_iconst E.2.2.1 rfl dX7_isSheet_1
theorem oo_X7_isSheet_2 {Γ : jΓ} {Q : jPost} (E : E_X7_isSheet Γ Q) : jSA Γ Q 2 (o_ic (3)) 1 := so_iconst E.2.2.1 rfl dX7_isSheet_2
theorem oo_X7_isSheet_3 {Γ : jΓ} {Q : jPost} (E : E_X7_isSheet Γ Q) : jSA Γ Q 3 (o_call 3 T_X7_in) 3 := so_callS E.2.2.1 gX7_isSheet_X7_in (by decide +kernel) rfl (by rw [E.2.1]; exact m_X7_in _) (by decide) (by decide) dX7_isSheet_3
theorem oo_X7_isSheet_6 {Γ : jΓ} {Q : jPost} (E : E_X7_isSheet Γ Q) : jSA Γ Q 6 (o_iretz) 1 := so_iretz E.2.2.1 E.2.2.2 dX7_isSheet_6
theorem ok_X7_isSheet_0 {Γ : jΓ} {Q : jPost} (E : E_X7_isSheet Γ Q) : jSS Γ Q 0 sg_X7_isSheet_0 := ⟨oo_X7_isSheet_0 E, oo_X7_isSheet_1 E, oo_X7_isSheet_2 E, oo_X7_isSheet_3 E, oo_X7_isSheet_6 E, trivial⟩
theorem okc_X7_isSheet {Γ : jΓ} {Q : jPost} (E : E_X7_isSheet Γ Q) (t : Nat) : jSS Γ Q t (cd_X7_isSheet t) := by
  unfold cd_X7_isSheet
  trivial
theorem m_X7_isSheet_of (l : Launch) (hv : ∀ (G : jGt) (Q : jPost) (vs : List Value) (K : List jK) (h : jM), jHd cd_X7_isSheet G Q sg_X7_isSheet_0 0 → T_X7_isSheet vs K h Q → (lg_sl vs).length ≤ 1 ∧ G 0 (jinit vs 1) [] K h 0 0) : jHolds vwCl l yX7_isSheet wsX7_isSheet 1 22 0 0 T_X7_isSheet := by
  refine jMet (cc := cX7_isSheet) (maxL := 1) (rt := (some .boolean)) (by decide +kernel) rfl (fun Γ Q vs K h hl hn hcl C hR hT => hv (jG Γ) Q vs K h ?_ hT)
  · exact fun n L st K h ce sl => jwp_ok (okc_X7_isSheet ⟨hn, hcl, C, hR⟩) n sg_X7_isSheet_0 0 (ok_X7_isSheet_0 ⟨hn, hcl, C, hR⟩) L st K h ce sl
set_option maxHeartbeats 4000000 in
set_option maxRecDepth 100000 in
theorem v_X7_isSheet {G : jGt} {Q : jPost} {K : List jK} {h : jM} {s : Int32} (hT : Q (some (.int (jb (0 ≤ s ∧ s ≤ 3)))) K h) (H0 : jHd cd_X7_isSheet G Q sg_X7_isSheet_0 0) : G 0 [some (.int s)] [] K h 0 0 := by
  refine H0 20 _ _ _ _ _ _ ?_
  simp only [sg_X7_isSheet_0, cd_X7_isSheet, jwp, o_ic, o_lc, o_iload, o_lload, o_aload, o_istore, o_lstore, o_astore, o_iinc, o_pop, o_dup, o_dup2, o_iadd, o_isub, o_imul, o_iand, o_ior, o_ishl, o_ladd, o_lmul, o_land, o_lor, o_idiv, o_irem, o_ineg, o_i2l, o_l2i, o_i2b, o_i2s, o_lushr, o_lshr, o_lshl, o_lcmp, o_ifeq, o_ifne, o_iflt, o_ifge, o_ifgt, o_ifle, o_iceq, o_icne, o_iclt, o_icge, o_icgt, o_icle, o_goto, o_tsw, jsw, o_lsw, jlk, o_getf, o_putf, o_putz, o_iald, o_zald, o_iast, o_zast, o_aald, o_alen, o_gets, o_zld, o_zlen, o_cpy, o_call, o_callV, o_ireti, o_iretz, o_lret, o_vret, jg, js, jkp, jkill, jsp, jcs, jfw, jov, Value.category, Option.toList_some, Option.toList_none, List.nil_append, List.cons_append, List.append_nil, Nat.reduceAdd, true_and, and_true, jb0, jb01, jb1, jem, true_or, or_true, Classical.not_not, forall_const, List.length_cons, List.length_nil, Nat.reduceLeDiff, Nat.zero_le, Nat.reduceLT, T_X7_in]
  exact hT
theorem m_X7_isSheet (l : Launch) : jHolds vwCl l yX7_isSheet wsX7_isSheet 1 22 0 0 T_X7_isSheet := by
  refine m_X7_isSheet_of l (fun G Q vs K h H0 hT => ?_)
  unfold T_X7_isSheet at hT
  split at hT
  · skip
    exact ⟨Nat.le_of_ble_eq_true rfl, v_X7_isSheet hT H0⟩
  · exact hT.elim

/-! X7_drop -/
def T_X7_drop : jT := fun vs K h Q => match vs with
  | [.ref r0, .int s] => r0 = 37 ∧ (jXM K ∧ (¬ (0 ≤ s ∧ s ≤ 3) → Q (some (.int (-1))) K h) ∧ (0 ≤ s ∧ s ≤ 3 → (h 53 s.toNatClampNeg < 0 → Q (some (.int (-11))) K h) ∧ (¬ h 53 s.toNatClampNeg < 0 → Q (some (.int (h 54 s.toNatClampNeg))) K (up2 h 53 s.toNatClampNeg (-1)))))
  | _ => False
def sg_X7_drop_0 : jS := [(o_iload 1, 1), (o_call 1 T_X7_isSheet, 3), (o_ifne 9, 3), (o_ic (-1), 1), (o_ireti, 1)]
def sg_X7_drop_9 : jS := [(o_aload 0, 1), (o_getf 7 29, 3), (o_iload 1, 1), (o_iald, 1), (o_ifge 21, 3), (o_ic (-11), 2), (o_ireti, 1)]
def sg_X7_drop_21 : jS := [(o_aload 0, 1), (o_getf 7 29, 3), (o_iload 1, 1), (o_ic (-1), 1), (o_iast, 1), (o_aload 0, 1), (o_getf 7 30, 3), (o_iload 1, 1), (o_iald, 1), (o_ireti, 1)]
def cd_X7_drop : Nat → jS := fun t => match t with
  | 9 => sg_X7_drop_9
  | 21 => sg_X7_drop_21
  | _ => []
theorem wl_X7_drop_61 : Cond.fieldLink RX7 61 (TX7 29).1 (TX7 29).2.1 (TX7 29).2.2.1 ∈ wsX7_drop := by decide +kernel
theorem wl_X7_drop_64 : Cond.fieldLink RX7 64 (TX7 30).1 (TX7 30).2.1 (TX7 30).2.2.1 ∈ wsX7_drop := by decide +kernel
theorem wi_X7_drop_X7 : ∀ w ∈ u_ws RX7 TX7 33, w ∈ wsX7_drop := by decide +kernel
def E_X7_drop (Γ : jΓ) (Q : jPost) : Prop := Γ.2.2.2.2.2.2.2.2.2.2.1 = 2 ∧ Γ.2.2.2.2.2.2.2.2.2.2.2.1 = vwCl ∧ jC Γ cX7_drop RX7 "drop" (some .int) wsX7_drop 2 42 0 0 ∧ jR Γ Q 0 0
theorem oo_X7_drop_0 {Γ : jΓ} {Q : jPost} (E : E_X7_drop Γ Q) : jSA Γ Q 0 (o_iload 1) 1 := so_iload_n E.2.2.1 rfl dX7_drop_0
theorem oo_X7_drop_1 {Γ : jΓ} {Q : jPost} (E : E_X7_drop Γ Q) : jSA Γ Q 1 (o_call 1 T_X7_isSheet) 3 := so_callS E.2.2.1 gX7_drop_X7_isSheet (by decide +kernel) rfl (by rw [E.2.1]; exact m_X7_isSheet _) (by decide) (by decide) dX7_drop_1
theorem oo_X7_drop_4 {Γ : jΓ} {Q : jPost} (E : E_X7_drop Γ Q) : jSA Γ Q 4 (o_ifne 9) 3 := so_ifne E.2.2.1 (by decide) dX7_drop_4
theorem oo_X7_drop_7 {Γ : jΓ} {Q : jPost} (E : E_X7_drop Γ Q) : jSA Γ Q 7 (o_ic (-1)) 1 := so_iconst E.2.2.1 rfl dX7_drop_7
theorem oo_X7_drop_8 {Γ : jΓ} {Q : jPost} (E : E_X7_drop Γ Q) : jSA Γ Q 8 (o_ireti) 1 := so_ireti E.2.2.1 E.2.2.2 dX7_drop_8
theorem oo_X7_drop_9 {Γ : jΓ} {Q : jPost} (E : E_X7_drop Γ Q) : jSA Γ Q 9 (o_aload 0) 1 := so_aload_n E.2.2.1 rfl dX7_drop_9
theorem oo_X7_drop_10 {Γ : jΓ} {Q : jPost} (E : E_X7_drop Γ Q) : jSA Γ Q 10 (o_getf 7 29) 3 := so_getf (ci := 7) E.2.2.1 wi_X7_drop_X7 (by rw [E.2.1]; rfl) 29 (by decide) wl_X7_drop_61 dX7_drop_10
theorem oo_X7_drop_13 {Γ : jΓ} {Q : jPost} (E : E_X7_drop Γ Q) : jSA Γ Q 13 (o_iload 1) 1 := so_iload_n E.2.2.1 rfl dX7_drop_13
theorem oo_X7_drop_14 {Γ : jΓ} {Q : jPost} (E : E_X7_drop Γ Q) : jSA Γ Q 14 (o_iald) 1 := so_iald E.2.2.1 dX7_drop_14
theorem oo_X7_drop_15 {Γ : jΓ} {Q : jPost} (E : E_X7_drop Γ Q) : jSA Γ Q 15 (o_ifge 21) 3 := so_ifge E.2.2.1 (by decide) dX7_drop_15
theorem oo_X7_drop_18 {Γ : jΓ} {Q : jPost} (E : E_X7_drop Γ Q) : jSA Γ Q 18 (o_ic (-11)) 2 := so_bipush E.2.2.1 rfl dX7_drop_18
theorem oo_X7_drop_20 {Γ : jΓ} {Q : jPost} (E : E_X7_drop Γ Q) : jSA Γ Q 20 (o_ireti) 1 := so_ireti E.2.2.1 E.2.2.2 dX7_drop_20
theorem oo_X7_drop_21 {Γ : jΓ} {Q : jPost} (E : E_X7_drop Γ Q) : jSA Γ Q 21 (o_aload 0) 1 := so_aload_n E.2.2.1 rfl dX7_drop_21
theorem oo_X7_drop_22 {Γ : jΓ} {Q : jPost} (E : E_X7_drop Γ Q) : jSA Γ Q 22 (o_getf 7 29) 3 := so_getf (ci := 7) E.2.2.1 wi_X7_drop_X7 (by rw [E.2.1]; rfl) 29 (by decide) wl_X7_drop_61 dX7_drop_22
theorem oo_X7_drop_25 {Γ : jΓ} {Q : jPost} (E : E_X7_drop Γ Q) : jSA Γ Q 25 (o_iload 1) 1 := so_iload_n E.2.2.1 rfl dX7_drop_25
theorem oo_X7_drop_26 {Γ : jΓ} {Q : jPost} (E : E_X7_drop Γ Q) : jSA Γ Q 26 (o_ic (-1)) 1 := so_iconst E.2.2.1 rfl dX7_drop_26
theorem oo_X7_drop_27 {Γ : jΓ} {Q : jPost} (E : E_X7_drop Γ Q) : jSA Γ Q 27 (o_iast) 1 := so_iast E.2.2.1 dX7_drop_27
theorem oo_X7_drop_28 {Γ : jΓ} {Q : jPost} (E : E_X7_drop Γ Q) : jSA Γ Q 28 (o_aload 0) 1 := so_aload_n E.2.2.1 rfl dX7_drop_28
theorem oo_X7_drop_29 {Γ : jΓ} {Q : jPost} (E : E_X7_drop Γ Q) : jSA Γ Q 29 (o_getf 7 30) 3 := so_getf (ci := 7) E.2.2.1 wi_X7_drop_X7 (by rw [E.2.1]; rfl) 30 (by decide) wl_X7_drop_64 dX7_drop_29
theorem oo_X7_drop_32 {Γ : jΓ} {Q : jPost} (E : E_X7_drop Γ Q) : jSA Γ Q 32 (o_iload 1) 1 := so_iload_n E.2.2.1 rfl dX7_drop_32
theorem oo_X7_drop_33 {Γ : jΓ} {Q : jPost} (E : E_X7_drop Γ Q) : jSA Γ Q 33 (o_iald) 1 := so_iald E.2.2.1 dX7_drop_33
theorem oo_X7_drop_34 {Γ : jΓ} {Q : jPost} (E : E_X7_drop Γ Q) : jSA Γ Q 34 (o_ireti) 1 := so_ireti E.2.2.1 E.2.2.2 dX7_drop_34
theorem ok_X7_drop_0 {Γ : jΓ} {Q : jPost} (E : E_X7_drop Γ Q) : jSS Γ Q 0 sg_X7_drop_0 := ⟨oo_X7_drop_0 E, oo_X7_drop_1 E, oo_X7_drop_4 E, oo_X7_drop_7 E, oo_X7_drop_8 E, trivial⟩
theorem ok_X7_drop_9 {Γ : jΓ} {Q : jPost} (E : E_X7_drop Γ Q) : jSS Γ Q 9 sg_X7_drop_9 := ⟨oo_X7_drop_9 E, oo_X7_drop_10 E, oo_X7_drop_13 E, oo_X7_drop_14 E, oo_X7_drop_15 E, oo_X7_drop_18 E, oo_X7_drop_20 E, trivial⟩
theorem ok_X7_drop_21 {Γ : jΓ} {Q : jPost} (E : E_X7_drop Γ Q) : jSS Γ Q 21 sg_X7_drop_21 := ⟨oo_X7_drop_21 E, oo_X7_drop_22 E, oo_X7_drop_25 E, oo_X7_drop_26 E, oo_X7_drop_27 E, oo_X7_drop_28 E, oo_X7_drop_29 E, oo_X7_drop_32 E, oo_X7_drop_33 E, oo_X7_drop_34 E, trivial⟩
theorem okc_X7_drop {Γ : jΓ} {Q : jPost} (E : E_X7_drop Γ Q) (t : Nat) : jSS Γ Q t (cd_X7_drop t) := by
  unfold cd_X7_drop
  split
  · exact ok_X7_drop_9 E
  · exact ok_X7_drop_21 E
  · trivial
theorem m_X7_drop_of (l : Launch) (hv : ∀ (G : jGt) (Q : jPost) (vs : List Value) (K : List jK) (h : jM), jHd cd_X7_drop G Q sg_X7_drop_0 0 → T_X7_drop vs K h Q → (lg_sl vs).length ≤ 2 ∧ G 0 (jinit vs 2) [] K h 0 0) : jHolds vwCl l yX7_drop wsX7_drop 2 42 0 0 T_X7_drop := by
  refine jMet (cc := cX7_drop) (maxL := 2) (rt := (some .int)) (by decide +kernel) rfl (fun Γ Q vs K h hl hn hcl C hR hT => hv (jG Γ) Q vs K h ?_ hT)
  · exact fun n L st K h ce sl => jwp_ok (okc_X7_drop ⟨hn, hcl, C, hR⟩) n sg_X7_drop_0 0 (ok_X7_drop_0 ⟨hn, hcl, C, hR⟩) L st K h ce sl
set_option maxHeartbeats 4000000 in
set_option maxRecDepth 100000 in
theorem v_X7_drop {G : jGt} {Q : jPost} {K : List jK} {h : jM} {s : Int32} (hT : jXM K ∧ (¬ (0 ≤ s ∧ s ≤ 3) → Q (some (.int (-1))) K h) ∧ (0 ≤ s ∧ s ≤ 3 → (h 53 s.toNatClampNeg < 0 → Q (some (.int (-11))) K h) ∧ (¬ h 53 s.toNatClampNeg < 0 → Q (some (.int (h 54 s.toNatClampNeg))) K (up2 h 53 s.toNatClampNeg (-1))))) (H0 : jHd cd_X7_drop G Q sg_X7_drop_0 0) : G 0 [some (.ref 37), some (.int s)] [] K h 0 0 := by
  obtain ⟨hM, hT0, hT1⟩ := hT
  refine H0 80 _ _ _ _ _ _ ?_
  by_cases c1 : 0 ≤ s ∧ s ≤ 3
  · obtain ⟨j, hj, rfl⟩ := sh_of c1
    have h31 : j < 2147483648 := by omega
    have hv : vp_in (nI j) 4 := vp_in_nI hj (by decide)
    have hT1 := hT1 c1
    rw [nI_clamp h31] at hT1
    simp only [sg_X7_drop_0, sg_X7_drop_9, sg_X7_drop_21, cd_X7_drop, jwp, o_ic, o_lc, o_iload, o_lload, o_aload, o_istore, o_lstore, o_astore, o_iinc, o_pop, o_dup, o_dup2, o_iadd, o_isub, o_imul, o_iand, o_ior, o_ishl, o_ladd, o_lmul, o_land, o_lor, o_idiv, o_irem, o_ineg, o_i2l, o_l2i, o_i2b, o_i2s, o_lushr, o_lshr, o_lshl, o_lcmp, o_ifeq, o_ifne, o_iflt, o_ifge, o_ifgt, o_ifle, o_iceq, o_icne, o_iclt, o_icge, o_icgt, o_icle, o_goto, o_tsw, jsw, o_lsw, jlk, o_getf, o_putf, o_putz, o_iald, o_zald, o_iast, o_zast, o_aald, o_alen, o_gets, o_zld, o_zlen, o_cpy, o_call, o_callV, o_ireti, o_iretz, o_lret, o_vret, jg, js, jkp, jkill, jsp, jcs, jfw, jov, Value.category, Option.toList_some, Option.toList_none, List.nil_append, List.cons_append, List.append_nil, Nat.reduceAdd, true_and, and_true, jb0, jb01, jb1, jem, true_or, or_true, Classical.not_not, forall_const, List.length_cons, List.length_nil, Nat.reduceLeDiff, Nat.zero_le, Nat.reduceLT, and_self, not_true_eq_false, not_false_eq_true, false_imp_iff, true_imp_iff, implies_true, and_false, false_and, or_false, false_or, hM, km_37_0 hM, km_37_1 hM, km_37_2 hM, km_37_3 hM, km_37_4 hM, km_37_5 hM, km_37_6 hM, km_37_7 hM, km_37_8 hM, km_37_9 hM, km_37_10 hM, km_37_11 hM, km_37_12 hM, km_37_13 hM, km_37_14 hM, km_37_15 hM, km_37_16 hM, km_37_17 hM, km_37_18 hM, km_37_19 hM, km_37_20 hM, km_37_21 hM, km_37_22 hM, km_37_23 hM, km_37_24 hM, km_37_25 hM, km_37_26 hM, km_37_27 hM, km_37_28 hM, km_37_29 hM, km_37_30 hM, km_37_31 hM, km_37_32 hM, kmo_37 hM, kma_38 hM, kma_39 hM, kma_40 hM, kma_41 hM, kma_42 hM, kma_43 hM, kma_44 hM, kma_45 hM, kma_46 hM, kma_47 hM, kma_48 hM, kma_49 hM, kma_50 hM, kma_52 hM, kma_53 hM, kma_54 hM, kma_55 hM, kma_56 hM, kma_51 hM, T_X7_isSheet, c1, hv, nI_clamp h31, up2_n (show ¬ 54 = 53 by decide)]
    by_cases c2 : h 53 j < 0
    · have hT1 := hT1.1 c2
      exact ⟨fun z => absurd c2 (Int32.not_lt.mpr z), fun _ => hT1⟩
    · have hT1 := hT1.2 c2
      exact ⟨fun _ => hT1, fun z => absurd (Int32.not_lt.mp c2) z⟩
  · have hT0 := hT0 c1
    simp only [sg_X7_drop_0, sg_X7_drop_9, sg_X7_drop_21, cd_X7_drop, jwp, o_ic, o_lc, o_iload, o_lload, o_aload, o_istore, o_lstore, o_astore, o_iinc, o_pop, o_dup, o_dup2, o_iadd, o_isub, o_imul, o_iand, o_ior, o_ishl, o_ladd, o_lmul, o_land, o_lor, o_idiv, o_irem, o_ineg, o_i2l, o_l2i, o_i2b, o_i2s, o_lushr, o_lshr, o_lshl, o_lcmp, o_ifeq, o_ifne, o_iflt, o_ifge, o_ifgt, o_ifle, o_iceq, o_icne, o_iclt, o_icge, o_icgt, o_icle, o_goto, o_tsw, jsw, o_lsw, jlk, o_getf, o_putf, o_putz, o_iald, o_zald, o_iast, o_zast, o_aald, o_alen, o_gets, o_zld, o_zlen, o_cpy, o_call, o_callV, o_ireti, o_iretz, o_lret, o_vret, jg, js, jkp, jkill, jsp, jcs, jfw, jov, Value.category, Option.toList_some, Option.toList_none, List.nil_append, List.cons_append, List.append_nil, Nat.reduceAdd, true_and, and_true, jb0, jb01, jb1, jem, true_or, or_true, Classical.not_not, forall_const, List.length_cons, List.length_nil, Nat.reduceLeDiff, Nat.zero_le, Nat.reduceLT, and_self, not_true_eq_false, not_false_eq_true, false_imp_iff, true_imp_iff, implies_true, and_false, false_and, or_false, false_or, hM, km_37_0 hM, km_37_1 hM, km_37_2 hM, km_37_3 hM, km_37_4 hM, km_37_5 hM, km_37_6 hM, km_37_7 hM, km_37_8 hM, km_37_9 hM, km_37_10 hM, km_37_11 hM, km_37_12 hM, km_37_13 hM, km_37_14 hM, km_37_15 hM, km_37_16 hM, km_37_17 hM, km_37_18 hM, km_37_19 hM, km_37_20 hM, km_37_21 hM, km_37_22 hM, km_37_23 hM, km_37_24 hM, km_37_25 hM, km_37_26 hM, km_37_27 hM, km_37_28 hM, km_37_29 hM, km_37_30 hM, km_37_31 hM, km_37_32 hM, kmo_37 hM, kma_38 hM, kma_39 hM, kma_40 hM, kma_41 hM, kma_42 hM, kma_43 hM, kma_44 hM, kma_45 hM, kma_46 hM, kma_47 hM, kma_48 hM, kma_49 hM, kma_50 hM, kma_52 hM, kma_53 hM, kma_54 hM, kma_55 hM, kma_56 hM, kma_51 hM, T_X7_isSheet, c1]
    exact hT0
theorem m_X7_drop (l : Launch) : jHolds vwCl l yX7_drop wsX7_drop 2 42 0 0 T_X7_drop := by
  refine m_X7_drop_of l (fun G Q vs K h H0 hT => ?_)
  unfold T_X7_drop at hT
  split at hT
  · obtain ⟨rfl, hT⟩ := hT
    exact ⟨Nat.le_of_ble_eq_true rfl, v_X7_drop hT H0⟩
  · exact hT.elim

/-! X7_item -/
def T_X7_item : jT := fun vs K h Q => match vs with
  | [.ref r0, .int s, .int l, .int i, .int v] => r0 = 37 ∧ (jXM K ∧ (¬ ((0 ≤ s ∧ s ≤ 3) ∧ (0 ≤ l ∧ l ≤ 2)) → Q (some (.int (-1))) K h) ∧ ((0 ≤ s ∧ s ≤ 3) ∧ (0 ≤ l ∧ l ≤ 2) → (h 53 s.toNatClampNeg < 0 → Q (some (.int (-11))) K h) ∧ (¬ h 53 s.toNatClampNeg < 0 → ¬ h 53 s.toNatClampNeg = l → Q (some (.int (-12))) K h) ∧ (¬ h 53 s.toNatClampNeg < 0 → h 53 s.toNatClampNeg = l → (0 ≤ (h 54 s.toNatClampNeg).toInt ∧ (h 54 s.toNatClampNeg).toInt ≤ 60) ∧ (¬ (0 ≤ i ∧ i ≤ h 54 s.toNatClampNeg - 1) → Q (some (.int (-13))) K h) ∧ (0 ≤ i ∧ i ≤ h 54 s.toNatClampNeg - 1 → Q (some (.int 1)) K (up2 h 55 (60 * s.toNatClampNeg + i.toNatClampNeg) (mlow l v))))))
  | _ => False
def sg_X7_item_0 : jS := [(o_iload 1, 1), (o_call 1 T_X7_isSheet, 3), (o_ifeq 16, 3), (o_iload 2, 1), (o_ic (0), 1), (o_ic (2), 1), (o_call 3 T_X7_in, 3), (o_ifne 18, 3), (o_ic (-1), 1), (o_ireti, 1)]
def sg_X7_item_16 : jS := [(o_ic (-1), 1), (o_ireti, 1)]
def sg_X7_item_18 : jS := [(o_aload 0, 1), (o_getf 7 29, 3), (o_iload 1, 1), (o_iald, 1), (o_ifge 30, 3), (o_ic (-11), 2), (o_ireti, 1)]
def sg_X7_item_30 : jS := [(o_aload 0, 1), (o_getf 7 29, 3), (o_iload 1, 1), (o_iald, 1), (o_iload 2, 1), (o_iceq 43, 3), (o_ic (-12), 2), (o_ireti, 1)]
def sg_X7_item_43 : jS := [(o_iload 3, 1), (o_ic (0), 1), (o_aload 0, 1), (o_getf 7 30, 3), (o_iload 1, 1), (o_iald, 1), (o_ic (1), 1), (o_isub, 1), (o_call 3 T_X7_in, 3), (o_ifne 62, 3), (o_ic (-13), 2), (o_ireti, 1)]
def sg_X7_item_62 : jS := [(o_aload 0, 1), (o_getf 7 31, 3), (o_ic (60), 2), (o_iload 1, 1), (o_imul, 1), (o_iload 3, 1), (o_iadd, 1), (o_iload 2, 1), (o_ifne 82, 3), (o_iload 4, 2), (o_i2b, 1), (o_goto 95, 3)]
def sg_X7_item_82 : jS := [(o_iload 2, 1), (o_ic (1), 1), (o_icne 93, 3), (o_iload 4, 2), (o_i2s, 1), (o_goto 95, 3)]
def sg_X7_item_93 : jS := [(o_iload 4, 2), (o_iast, 1), (o_ic (1), 1), (o_ireti, 1)]
def sg_X7_item_95 : jS := [(o_iast, 1), (o_ic (1), 1), (o_ireti, 1)]
def cd_X7_item : Nat → jS := fun t => match t with
  | 16 => sg_X7_item_16
  | 18 => sg_X7_item_18
  | 30 => sg_X7_item_30
  | 43 => sg_X7_item_43
  | 62 => sg_X7_item_62
  | 82 => sg_X7_item_82
  | 93 => sg_X7_item_93
  | 95 => sg_X7_item_95
  | _ => []
theorem wl_X7_item_61 : Cond.fieldLink RX7 61 (TX7 29).1 (TX7 29).2.1 (TX7 29).2.2.1 ∈ wsX7_item := by decide +kernel
theorem wl_X7_item_64 : Cond.fieldLink RX7 64 (TX7 30).1 (TX7 30).2.1 (TX7 30).2.2.1 ∈ wsX7_item := by decide +kernel
theorem wl_X7_item_67 : Cond.fieldLink RX7 67 (TX7 31).1 (TX7 31).2.1 (TX7 31).2.2.1 ∈ wsX7_item := by decide +kernel
theorem wi_X7_item_X7 : ∀ w ∈ u_ws RX7 TX7 33, w ∈ wsX7_item := by decide +kernel
def E_X7_item (Γ : jΓ) (Q : jPost) : Prop := Γ.2.2.2.2.2.2.2.2.2.2.1 = 5 ∧ Γ.2.2.2.2.2.2.2.2.2.2.2.1 = vwCl ∧ jC Γ cX7_item RX7 "item" (some .int) wsX7_item 2 42 0 0 ∧ jR Γ Q 0 0
theorem oo_X7_item_0 {Γ : jΓ} {Q : jPost} (E : E_X7_item Γ Q) : jSA Γ Q 0 (o_iload 1) 1 := so_iload_n E.2.2.1 rfl dX7_item_0
theorem oo_X7_item_1 {Γ : jΓ} {Q : jPost} (E : E_X7_item Γ Q) : jSA Γ Q 1 (o_call 1 T_X7_isSheet) 3 := so_callS E.2.2.1 gX7_item_X7_isSheet (by decide +kernel) rfl (by rw [E.2.1]; exact m_X7_isSheet _) (by decide) (by decide) dX7_item_1
theorem oo_X7_item_4 {Γ : jΓ} {Q : jPost} (E : E_X7_item Γ Q) : jSA Γ Q 4 (o_ifeq 16) 3 := so_ifeq E.2.2.1 (by decide) dX7_item_4
theorem oo_X7_item_7 {Γ : jΓ} {Q : jPost} (E : E_X7_item Γ Q) : jSA Γ Q 7 (o_iload 2) 1 := so_iload_n E.2.2.1 rfl dX7_item_7
theorem oo_X7_item_8 {Γ : jΓ} {Q : jPost} (E : E_X7_item Γ Q) : jSA Γ Q 8 (o_ic (0)) 1 := so_iconst E.2.2.1 rfl dX7_item_8
theorem oo_X7_item_9 {Γ : jΓ} {Q : jPost} (E : E_X7_item Γ Q) : jSA Γ Q 9 (o_ic (2)) 1 := so_iconst E.2.2.1 rfl dX7_item_9
theorem oo_X7_item_10 {Γ : jΓ} {Q : jPost} (E : E_X7_item Γ Q) : jSA Γ Q 10 (o_call 3 T_X7_in) 3 := so_callS E.2.2.1 gX7_item_X7_in (by decide +kernel) rfl (by rw [E.2.1]; exact m_X7_in _) (by decide) (by decide) dX7_item_10
theorem oo_X7_item_13 {Γ : jΓ} {Q : jPost} (E : E_X7_item Γ Q) : jSA Γ Q 13 (o_ifne 18) 3 := so_ifne E.2.2.1 (by decide) dX7_item_13
theorem oo_X7_item_16 {Γ : jΓ} {Q : jPost} (E : E_X7_item Γ Q) : jSA Γ Q 16 (o_ic (-1)) 1 := so_iconst E.2.2.1 rfl dX7_item_16
theorem oo_X7_item_17 {Γ : jΓ} {Q : jPost} (E : E_X7_item Γ Q) : jSA Γ Q 17 (o_ireti) 1 := so_ireti E.2.2.1 E.2.2.2 dX7_item_17
theorem oo_X7_item_18 {Γ : jΓ} {Q : jPost} (E : E_X7_item Γ Q) : jSA Γ Q 18 (o_aload 0) 1 := so_aload_n E.2.2.1 rfl dX7_item_18
theorem oo_X7_item_19 {Γ : jΓ} {Q : jPost} (E : E_X7_item Γ Q) : jSA Γ Q 19 (o_getf 7 29) 3 := so_getf (ci := 7) E.2.2.1 wi_X7_item_X7 (by rw [E.2.1]; rfl) 29 (by decide) wl_X7_item_61 dX7_item_19
theorem oo_X7_item_22 {Γ : jΓ} {Q : jPost} (E : E_X7_item Γ Q) : jSA Γ Q 22 (o_iload 1) 1 := so_iload_n E.2.2.1 rfl dX7_item_22
theorem oo_X7_item_23 {Γ : jΓ} {Q : jPost} (E : E_X7_item Γ Q) : jSA Γ Q 23 (o_iald) 1 := so_iald E.2.2.1 dX7_item_23
theorem oo_X7_item_24 {Γ : jΓ} {Q : jPost} (E : E_X7_item Γ Q) : jSA Γ Q 24 (o_ifge 30) 3 := so_ifge E.2.2.1 (by decide) dX7_item_24
theorem oo_X7_item_27 {Γ : jΓ} {Q : jPost} (E : E_X7_item Γ Q) : jSA Γ Q 27 (o_ic (-11)) 2 := so_bipush E.2.2.1 rfl dX7_item_27
theorem oo_X7_item_29 {Γ : jΓ} {Q : jPost} (E : E_X7_item Γ Q) : jSA Γ Q 29 (o_ireti) 1 := so_ireti E.2.2.1 E.2.2.2 dX7_item_29
theorem oo_X7_item_30 {Γ : jΓ} {Q : jPost} (E : E_X7_item Γ Q) : jSA Γ Q 30 (o_aload 0) 1 := so_aload_n E.2.2.1 rfl dX7_item_30
theorem oo_X7_item_31 {Γ : jΓ} {Q : jPost} (E : E_X7_item Γ Q) : jSA Γ Q 31 (o_getf 7 29) 3 := so_getf (ci := 7) E.2.2.1 wi_X7_item_X7 (by rw [E.2.1]; rfl) 29 (by decide) wl_X7_item_61 dX7_item_31
theorem oo_X7_item_34 {Γ : jΓ} {Q : jPost} (E : E_X7_item Γ Q) : jSA Γ Q 34 (o_iload 1) 1 := so_iload_n E.2.2.1 rfl dX7_item_34
theorem oo_X7_item_35 {Γ : jΓ} {Q : jPost} (E : E_X7_item Γ Q) : jSA Γ Q 35 (o_iald) 1 := so_iald E.2.2.1 dX7_item_35
theorem oo_X7_item_36 {Γ : jΓ} {Q : jPost} (E : E_X7_item Γ Q) : jSA Γ Q 36 (o_iload 2) 1 := so_iload_n E.2.2.1 rfl dX7_item_36
theorem oo_X7_item_37 {Γ : jΓ} {Q : jPost} (E : E_X7_item Γ Q) : jSA Γ Q 37 (o_iceq 43) 3 := so_iceq E.2.2.1 (by decide) dX7_item_37
theorem oo_X7_item_40 {Γ : jΓ} {Q : jPost} (E : E_X7_item Γ Q) : jSA Γ Q 40 (o_ic (-12)) 2 := so_bipush E.2.2.1 rfl dX7_item_40
theorem oo_X7_item_42 {Γ : jΓ} {Q : jPost} (E : E_X7_item Γ Q) : jSA Γ Q 42 (o_ireti) 1 := so_ireti E.2.2.1 E.2.2.2 dX7_item_42
theorem oo_X7_item_43 {Γ : jΓ} {Q : jPost} (E : E_X7_item Γ Q) : jSA Γ Q 43 (o_iload 3) 1 := so_iload_n E.2.2.1 rfl dX7_item_43
theorem oo_X7_item_44 {Γ : jΓ} {Q : jPost} (E : E_X7_item Γ Q) : jSA Γ Q 44 (o_ic (0)) 1 := so_iconst E.2.2.1 rfl dX7_item_44
theorem oo_X7_item_45 {Γ : jΓ} {Q : jPost} (E : E_X7_item Γ Q) : jSA Γ Q 45 (o_aload 0) 1 := so_aload_n E.2.2.1 rfl dX7_item_45
theorem oo_X7_item_46 {Γ : jΓ} {Q : jPost} (E : E_X7_item Γ Q) : jSA Γ Q 46 (o_getf 7 30) 3 := so_getf (ci := 7) E.2.2.1 wi_X7_item_X7 (by rw [E.2.1]; rfl) 30 (by decide) wl_X7_item_64 dX7_item_46
theorem oo_X7_item_49 {Γ : jΓ} {Q : jPost} (E : E_X7_item Γ Q) : jSA Γ Q 49 (o_iload 1) 1 := so_iload_n E.2.2.1 rfl dX7_item_49
theorem oo_X7_item_50 {Γ : jΓ} {Q : jPost} (E : E_X7_item Γ Q) : jSA Γ Q 50 (o_iald) 1 := so_iald E.2.2.1 dX7_item_50
theorem oo_X7_item_51 {Γ : jΓ} {Q : jPost} (E : E_X7_item Γ Q) : jSA Γ Q 51 (o_ic (1)) 1 := so_iconst E.2.2.1 rfl dX7_item_51
theorem oo_X7_item_52 {Γ : jΓ} {Q : jPost} (E : E_X7_item Γ Q) : jSA Γ Q 52 (o_isub) 1 := so_isub E.2.2.1 dX7_item_52
theorem oo_X7_item_53 {Γ : jΓ} {Q : jPost} (E : E_X7_item Γ Q) : jSA Γ Q 53 (o_call 3 T_X7_in) 3 := so_callS E.2.2.1 gX7_item_X7_in (by decide +kernel) rfl (by rw [E.2.1]; exact m_X7_in _) (by decide) (by decide) dX7_item_53
theorem oo_X7_item_56 {Γ : jΓ} {Q : jPost} (E : E_X7_item Γ Q) : jSA Γ Q 56 (o_ifne 62) 3 := so_ifne E.2.2.1 (by decide) dX7_item_56
theorem oo_X7_item_59 {Γ : jΓ} {Q : jPost} (E : E_X7_item Γ Q) : jSA Γ Q 59 (o_ic (-13)) 2 := so_bipush E.2.2.1 rfl dX7_item_59
theorem oo_X7_item_61 {Γ : jΓ} {Q : jPost} (E : E_X7_item Γ Q) : jSA Γ Q 61 (o_ireti) 1 := so_ireti E.2.2.1 E.2.2.2 dX7_item_61
theorem oo_X7_item_62 {Γ : jΓ} {Q : jPost} (E : E_X7_item Γ Q) : jSA Γ Q 62 (o_aload 0) 1 := so_aload_n E.2.2.1 rfl dX7_item_62
theorem oo_X7_item_63 {Γ : jΓ} {Q : jPost} (E : E_X7_item Γ Q) : jSA Γ Q 63 (o_getf 7 31) 3 := so_getf (ci := 7) E.2.2.1 wi_X7_item_X7 (by rw [E.2.1]; rfl) 31 (by decide) wl_X7_item_67 dX7_item_63
theorem oo_X7_item_66 {Γ : jΓ} {Q : jPost} (E : E_X7_item Γ Q) : jSA Γ Q 66 (o_ic (60)) 2 := so_bipush E.2.2.1 rfl dX7_item_66
theorem oo_X7_item_68 {Γ : jΓ} {Q : jPost} (E : E_X7_item Γ Q) : jSA Γ Q 68 (o_iload 1) 1 := so_iload_n E.2.2.1 rfl dX7_item_68
theorem oo_X7_item_69 {Γ : jΓ} {Q : jPost} (E : E_X7_item Γ Q) : jSA Γ Q 69 (o_imul) 1 := so_imul E.2.2.1 dX7_item_69
theorem oo_X7_item_70 {Γ : jΓ} {Q : jPost} (E : E_X7_item Γ Q) : jSA Γ Q 70 (o_iload 3) 1 := so_iload_n E.2.2.1 rfl dX7_item_70
theorem oo_X7_item_71 {Γ : jΓ} {Q : jPost} (E : E_X7_item Γ Q) : jSA Γ Q 71 (o_iadd) 1 := so_iadd E.2.2.1 dX7_item_71
theorem oo_X7_item_72 {Γ : jΓ} {Q : jPost} (E : E_X7_item Γ Q) : jSA Γ Q 72 (o_iload 2) 1 := so_iload_n E.2.2.1 rfl dX7_item_72
theorem oo_X7_item_73 {Γ : jΓ} {Q : jPost} (E : E_X7_item Γ Q) : jSA Γ Q 73 (o_ifne 82) 3 := so_ifne E.2.2.1 (by decide) dX7_item_73
theorem oo_X7_item_76 {Γ : jΓ} {Q : jPost} (E : E_X7_item Γ Q) : jSA Γ Q 76 (o_iload 4) 2 := so_iload E.2.2.1 dX7_item_76
theorem oo_X7_item_78 {Γ : jΓ} {Q : jPost} (E : E_X7_item Γ Q) : jSA Γ Q 78 (o_i2b) 1 := so_i2b E.2.2.1 dX7_item_78
theorem oo_X7_item_79 {Γ : jΓ} {Q : jPost} (E : E_X7_item Γ Q) : jSA Γ Q 79 (o_goto 95) 3 := so_goto E.2.2.1 (by decide) dX7_item_79
theorem oo_X7_item_82 {Γ : jΓ} {Q : jPost} (E : E_X7_item Γ Q) : jSA Γ Q 82 (o_iload 2) 1 := so_iload_n E.2.2.1 rfl dX7_item_82
theorem oo_X7_item_83 {Γ : jΓ} {Q : jPost} (E : E_X7_item Γ Q) : jSA Γ Q 83 (o_ic (1)) 1 := so_iconst E.2.2.1 rfl dX7_item_83
theorem oo_X7_item_84 {Γ : jΓ} {Q : jPost} (E : E_X7_item Γ Q) : jSA Γ Q 84 (o_icne 93) 3 := so_icne E.2.2.1 (by decide) dX7_item_84
theorem oo_X7_item_87 {Γ : jΓ} {Q : jPost} (E : E_X7_item Γ Q) : jSA Γ Q 87 (o_iload 4) 2 := so_iload E.2.2.1 dX7_item_87
theorem oo_X7_item_89 {Γ : jΓ} {Q : jPost} (E : E_X7_item Γ Q) : jSA Γ Q 89 (o_i2s) 1 := so_i2s E.2.2.1 dX7_item_89
theorem oo_X7_item_90 {Γ : jΓ} {Q : jPost} (E : E_X7_item Γ Q) : jSA Γ Q 90 (o_goto 95) 3 := so_goto E.2.2.1 (by decide) dX7_item_90
theorem oo_X7_item_93 {Γ : jΓ} {Q : jPost} (E : E_X7_item Γ Q) : jSA Γ Q 93 (o_iload 4) 2 := so_iload E.2.2.1 dX7_item_93
theorem oo_X7_item_95 {Γ : jΓ} {Q : jPost} (E : E_X7_item Γ Q) : jSA Γ Q 95 (o_iast) 1 := so_iast E.2.2.1 dX7_item_95
theorem oo_X7_item_96 {Γ : jΓ} {Q : jPost} (E : E_X7_item Γ Q) : jSA Γ Q 96 (o_ic (1)) 1 := so_iconst E.2.2.1 rfl dX7_item_96
theorem oo_X7_item_97 {Γ : jΓ} {Q : jPost} (E : E_X7_item Γ Q) : jSA Γ Q 97 (o_ireti) 1 := so_ireti E.2.2.1 E.2.2.2 dX7_item_97
theorem ok_X7_item_0 {Γ : jΓ} {Q : jPost} (E : E_X7_item Γ Q) : jSS Γ Q 0 sg_X7_item_0 := ⟨oo_X7_item_0 E, oo_X7_item_1 E, oo_X7_item_4 E, oo_X7_item_7 E, oo_X7_item_8 E, oo_X7_item_9 E, oo_X7_item_10 E, oo_X7_item_13 E, oo_X7_item_16 E, oo_X7_item_17 E, trivial⟩
theorem ok_X7_item_16 {Γ : jΓ} {Q : jPost} (E : E_X7_item Γ Q) : jSS Γ Q 16 sg_X7_item_16 := ⟨oo_X7_item_16 E, oo_X7_item_17 E, trivial⟩
theorem ok_X7_item_18 {Γ : jΓ} {Q : jPost} (E : E_X7_item Γ Q) : jSS Γ Q 18 sg_X7_item_18 := ⟨oo_X7_item_18 E, oo_X7_item_19 E, oo_X7_item_22 E, oo_X7_item_23 E, oo_X7_item_24 E, oo_X7_item_27 E, oo_X7_item_29 E, trivial⟩
theorem ok_X7_item_30 {Γ : jΓ} {Q : jPost} (E : E_X7_item Γ Q) : jSS Γ Q 30 sg_X7_item_30 := ⟨oo_X7_item_30 E, oo_X7_item_31 E, oo_X7_item_34 E, oo_X7_item_35 E, oo_X7_item_36 E, oo_X7_item_37 E, oo_X7_item_40 E, oo_X7_item_42 E, trivial⟩
theorem ok_X7_item_43 {Γ : jΓ} {Q : jPost} (E : E_X7_item Γ Q) : jSS Γ Q 43 sg_X7_item_43 := ⟨oo_X7_item_43 E, oo_X7_item_44 E, oo_X7_item_45 E, oo_X7_item_46 E, oo_X7_item_49 E, oo_X7_item_50 E, oo_X7_item_51 E, oo_X7_item_52 E, oo_X7_item_53 E, oo_X7_item_56 E, oo_X7_item_59 E, oo_X7_item_61 E, trivial⟩
theorem ok_X7_item_62 {Γ : jΓ} {Q : jPost} (E : E_X7_item Γ Q) : jSS Γ Q 62 sg_X7_item_62 := ⟨oo_X7_item_62 E, oo_X7_item_63 E, oo_X7_item_66 E, oo_X7_item_68 E, oo_X7_item_69 E, oo_X7_item_70 E, oo_X7_item_71 E, oo_X7_item_72 E, oo_X7_item_73 E, oo_X7_item_76 E, oo_X7_item_78 E, oo_X7_item_79 E, trivial⟩
theorem ok_X7_item_82 {Γ : jΓ} {Q : jPost} (E : E_X7_item Γ Q) : jSS Γ Q 82 sg_X7_item_82 := ⟨oo_X7_item_82 E, oo_X7_item_83 E, oo_X7_item_84 E, oo_X7_item_87 E, oo_X7_item_89 E, oo_X7_item_90 E, trivial⟩
theorem ok_X7_item_93 {Γ : jΓ} {Q : jPost} (E : E_X7_item Γ Q) : jSS Γ Q 93 sg_X7_item_93 := ⟨oo_X7_item_93 E, oo_X7_item_95 E, oo_X7_item_96 E, oo_X7_item_97 E, trivial⟩
theorem ok_X7_item_95 {Γ : jΓ} {Q : jPost} (E : E_X7_item Γ Q) : jSS Γ Q 95 sg_X7_item_95 := ⟨oo_X7_item_95 E, oo_X7_item_96 E, oo_X7_item_97 E, trivial⟩
theorem okc_X7_item {Γ : jΓ} {Q : jPost} (E : E_X7_item Γ Q) (t : Nat) : jSS Γ Q t (cd_X7_item t) := by
  unfold cd_X7_item
  split
  · exact ok_X7_item_16 E
  · exact ok_X7_item_18 E
  · exact ok_X7_item_30 E
  · exact ok_X7_item_43 E
  · exact ok_X7_item_62 E
  · exact ok_X7_item_82 E
  · exact ok_X7_item_93 E
  · exact ok_X7_item_95 E
  · trivial
theorem m_X7_item_of (l : Launch) (hv : ∀ (G : jGt) (Q : jPost) (vs : List Value) (K : List jK) (h : jM), jHd cd_X7_item G Q sg_X7_item_0 0 → T_X7_item vs K h Q → (lg_sl vs).length ≤ 5 ∧ G 0 (jinit vs 5) [] K h 0 0) : jHolds vwCl l yX7_item wsX7_item 2 42 0 0 T_X7_item := by
  refine jMet (cc := cX7_item) (maxL := 5) (rt := (some .int)) (by decide +kernel) rfl (fun Γ Q vs K h hl hn hcl C hR hT => hv (jG Γ) Q vs K h ?_ hT)
  · exact fun n L st K h ce sl => jwp_ok (okc_X7_item ⟨hn, hcl, C, hR⟩) n sg_X7_item_0 0 (ok_X7_item_0 ⟨hn, hcl, C, hR⟩) L st K h ce sl
set_option maxHeartbeats 4000000 in
set_option maxRecDepth 100000 in
theorem v_X7_item {G : jGt} {Q : jPost} {K : List jK} {h : jM} {s : Int32} {l : Int32} {i : Int32} {v : Int32} (hT : jXM K ∧ (¬ ((0 ≤ s ∧ s ≤ 3) ∧ (0 ≤ l ∧ l ≤ 2)) → Q (some (.int (-1))) K h) ∧ ((0 ≤ s ∧ s ≤ 3) ∧ (0 ≤ l ∧ l ≤ 2) → (h 53 s.toNatClampNeg < 0 → Q (some (.int (-11))) K h) ∧ (¬ h 53 s.toNatClampNeg < 0 → ¬ h 53 s.toNatClampNeg = l → Q (some (.int (-12))) K h) ∧ (¬ h 53 s.toNatClampNeg < 0 → h 53 s.toNatClampNeg = l → (0 ≤ (h 54 s.toNatClampNeg).toInt ∧ (h 54 s.toNatClampNeg).toInt ≤ 60) ∧ (¬ (0 ≤ i ∧ i ≤ h 54 s.toNatClampNeg - 1) → Q (some (.int (-13))) K h) ∧ (0 ≤ i ∧ i ≤ h 54 s.toNatClampNeg - 1 → Q (some (.int 1)) K (up2 h 55 (60 * s.toNatClampNeg + i.toNatClampNeg) (mlow l v)))))) (H0 : jHd cd_X7_item G Q sg_X7_item_0 0) : G 0 [some (.ref 37), some (.int s), some (.int l), some (.int i), some (.int v)] [] K h 0 0 := by
  obtain ⟨hM, hT0, hT1⟩ := hT
  refine H0 80 _ _ _ _ _ _ ?_
  by_cases c1 : 0 ≤ s ∧ s ≤ 3
  · obtain ⟨j, hj, rfl⟩ := sh_of c1
    have h31 : j < 2147483648 := by omega
    have hv : vp_in (nI j) 4 := vp_in_nI hj (by decide)
    by_cases c2 : 0 ≤ l ∧ l ≤ 2
    · obtain ⟨hT1, hT2, hT3⟩ := hT1 ⟨c1, c2⟩
      rw [nI_clamp h31] at hT1 hT2 hT3
      by_cases c3 : h 53 j < 0
      · have hT1 := hT1 c3
        have c3' := Int32.not_le.mpr c3
        simp only [sg_X7_item_0, sg_X7_item_16, sg_X7_item_18, sg_X7_item_30, sg_X7_item_43, sg_X7_item_62, sg_X7_item_82, sg_X7_item_93, sg_X7_item_95, cd_X7_item, jwp, o_ic, o_lc, o_iload, o_lload, o_aload, o_istore, o_lstore, o_astore, o_iinc, o_pop, o_dup, o_dup2, o_iadd, o_isub, o_imul, o_iand, o_ior, o_ishl, o_ladd, o_lmul, o_land, o_lor, o_idiv, o_irem, o_ineg, o_i2l, o_l2i, o_i2b, o_i2s, o_lushr, o_lshr, o_lshl, o_lcmp, o_ifeq, o_ifne, o_iflt, o_ifge, o_ifgt, o_ifle, o_iceq, o_icne, o_iclt, o_icge, o_icgt, o_icle, o_goto, o_tsw, jsw, o_lsw, jlk, o_getf, o_putf, o_putz, o_iald, o_zald, o_iast, o_zast, o_aald, o_alen, o_gets, o_zld, o_zlen, o_cpy, o_call, o_callV, o_ireti, o_iretz, o_lret, o_vret, jg, js, jkp, jkill, jsp, jcs, jfw, jov, Value.category, Option.toList_some, Option.toList_none, List.nil_append, List.cons_append, List.append_nil, Nat.reduceAdd, true_and, and_true, jb0, jb01, jb1, jem, true_or, or_true, Classical.not_not, forall_const, List.length_cons, List.length_nil, Nat.reduceLeDiff, Nat.zero_le, Nat.reduceLT, and_self, not_true_eq_false, not_false_eq_true, false_imp_iff, true_imp_iff, implies_true, and_false, false_and, or_false, false_or, hM, km_37_0 hM, km_37_1 hM, km_37_2 hM, km_37_3 hM, km_37_4 hM, km_37_5 hM, km_37_6 hM, km_37_7 hM, km_37_8 hM, km_37_9 hM, km_37_10 hM, km_37_11 hM, km_37_12 hM, km_37_13 hM, km_37_14 hM, km_37_15 hM, km_37_16 hM, km_37_17 hM, km_37_18 hM, km_37_19 hM, km_37_20 hM, km_37_21 hM, km_37_22 hM, km_37_23 hM, km_37_24 hM, km_37_25 hM, km_37_26 hM, km_37_27 hM, km_37_28 hM, km_37_29 hM, km_37_30 hM, km_37_31 hM, km_37_32 hM, kmo_37 hM, kma_38 hM, kma_39 hM, kma_40 hM, kma_41 hM, kma_42 hM, kma_43 hM, kma_44 hM, kma_45 hM, kma_46 hM, kma_47 hM, kma_48 hM, kma_49 hM, kma_50 hM, kma_52 hM, kma_53 hM, kma_54 hM, kma_55 hM, kma_56 hM, kma_51 hM, T_X7_isSheet, T_X7_in, c1, c2, hv, nI_clamp h31, c3']
        exact hT1
      · have c3' := Int32.not_lt.mp c3
        by_cases c4 : h 53 j = l
        · obtain ⟨hle, hT4, hT5⟩ := hT3 c3 c4
          by_cases c5 : 0 ≤ i ∧ i ≤ h 54 j - 1
          · have hT5 := hT5 c5
            have hi : vp_in i 60 := in_of_le c5 hle
            obtain ⟨k, hk, rfl⟩ := vp_in_of hi (by decide)
            have e60 : (60 : Int32) * nI j + nI k = nI (60 * j + k) := by
              rw [show (60 : Int32) = nI 60 from rfl, nI_mul, nI_add]
            have hvi : vp_in (nI (60 * j + k)) 240 := vp_in_nI (by omega) (by decide)
            rw [nI_clamp (show k < 2147483648 by omega)] at hT5
            unfold mlow at hT5
            simp only [sg_X7_item_0, sg_X7_item_16, sg_X7_item_18, sg_X7_item_30, sg_X7_item_43, sg_X7_item_62, sg_X7_item_82, sg_X7_item_93, sg_X7_item_95, cd_X7_item, jwp, o_ic, o_lc, o_iload, o_lload, o_aload, o_istore, o_lstore, o_astore, o_iinc, o_pop, o_dup, o_dup2, o_iadd, o_isub, o_imul, o_iand, o_ior, o_ishl, o_ladd, o_lmul, o_land, o_lor, o_idiv, o_irem, o_ineg, o_i2l, o_l2i, o_i2b, o_i2s, o_lushr, o_lshr, o_lshl, o_lcmp, o_ifeq, o_ifne, o_iflt, o_ifge, o_ifgt, o_ifle, o_iceq, o_icne, o_iclt, o_icge, o_icgt, o_icle, o_goto, o_tsw, jsw, o_lsw, jlk, o_getf, o_putf, o_putz, o_iald, o_zald, o_iast, o_zast, o_aald, o_alen, o_gets, o_zld, o_zlen, o_cpy, o_call, o_callV, o_ireti, o_iretz, o_lret, o_vret, jg, js, jkp, jkill, jsp, jcs, jfw, jov, Value.category, Option.toList_some, Option.toList_none, List.nil_append, List.cons_append, List.append_nil, Nat.reduceAdd, true_and, and_true, jb0, jb01, jb1, jem, true_or, or_true, Classical.not_not, forall_const, List.length_cons, List.length_nil, Nat.reduceLeDiff, Nat.zero_le, Nat.reduceLT, and_self, not_true_eq_false, not_false_eq_true, false_imp_iff, true_imp_iff, implies_true, and_false, false_and, or_false, false_or, hM, km_37_0 hM, km_37_1 hM, km_37_2 hM, km_37_3 hM, km_37_4 hM, km_37_5 hM, km_37_6 hM, km_37_7 hM, km_37_8 hM, km_37_9 hM, km_37_10 hM, km_37_11 hM, km_37_12 hM, km_37_13 hM, km_37_14 hM, km_37_15 hM, km_37_16 hM, km_37_17 hM, km_37_18 hM, km_37_19 hM, km_37_20 hM, km_37_21 hM, km_37_22 hM, km_37_23 hM, km_37_24 hM, km_37_25 hM, km_37_26 hM, km_37_27 hM, km_37_28 hM, km_37_29 hM, km_37_30 hM, km_37_31 hM, km_37_32 hM, kmo_37 hM, kma_38 hM, kma_39 hM, kma_40 hM, kma_41 hM, kma_42 hM, kma_43 hM, kma_44 hM, kma_45 hM, kma_46 hM, kma_47 hM, kma_48 hM, kma_49 hM, kma_50 hM, kma_52 hM, kma_53 hM, kma_54 hM, kma_55 hM, kma_56 hM, kma_51 hM, T_X7_isSheet, T_X7_in, c1, c2, hv, nI_clamp h31, c3', c4, c5, e60, hvi, nI_clamp (show 60 * j + k < 2147483648 by omega)]
            refine ⟨fun z => ⟨fun z1 => ?_, fun z1 => ?_⟩, fun z => ?_⟩
            · rw [if_neg z, if_neg z1] at hT5; exact hT5
            · rw [if_neg z, if_pos z1] at hT5; exact hT5
            · rw [if_pos z] at hT5; exact hT5
          · have hT4 := hT4 c5
            simp only [sg_X7_item_0, sg_X7_item_16, sg_X7_item_18, sg_X7_item_30, sg_X7_item_43, sg_X7_item_62, sg_X7_item_82, sg_X7_item_93, sg_X7_item_95, cd_X7_item, jwp, o_ic, o_lc, o_iload, o_lload, o_aload, o_istore, o_lstore, o_astore, o_iinc, o_pop, o_dup, o_dup2, o_iadd, o_isub, o_imul, o_iand, o_ior, o_ishl, o_ladd, o_lmul, o_land, o_lor, o_idiv, o_irem, o_ineg, o_i2l, o_l2i, o_i2b, o_i2s, o_lushr, o_lshr, o_lshl, o_lcmp, o_ifeq, o_ifne, o_iflt, o_ifge, o_ifgt, o_ifle, o_iceq, o_icne, o_iclt, o_icge, o_icgt, o_icle, o_goto, o_tsw, jsw, o_lsw, jlk, o_getf, o_putf, o_putz, o_iald, o_zald, o_iast, o_zast, o_aald, o_alen, o_gets, o_zld, o_zlen, o_cpy, o_call, o_callV, o_ireti, o_iretz, o_lret, o_vret, jg, js, jkp, jkill, jsp, jcs, jfw, jov, Value.category, Option.toList_some, Option.toList_none, List.nil_append, List.cons_append, List.append_nil, Nat.reduceAdd, true_and, and_true, jb0, jb01, jb1, jem, true_or, or_true, Classical.not_not, forall_const, List.length_cons, List.length_nil, Nat.reduceLeDiff, Nat.zero_le, Nat.reduceLT, and_self, not_true_eq_false, not_false_eq_true, false_imp_iff, true_imp_iff, implies_true, and_false, false_and, or_false, false_or, hM, km_37_0 hM, km_37_1 hM, km_37_2 hM, km_37_3 hM, km_37_4 hM, km_37_5 hM, km_37_6 hM, km_37_7 hM, km_37_8 hM, km_37_9 hM, km_37_10 hM, km_37_11 hM, km_37_12 hM, km_37_13 hM, km_37_14 hM, km_37_15 hM, km_37_16 hM, km_37_17 hM, km_37_18 hM, km_37_19 hM, km_37_20 hM, km_37_21 hM, km_37_22 hM, km_37_23 hM, km_37_24 hM, km_37_25 hM, km_37_26 hM, km_37_27 hM, km_37_28 hM, km_37_29 hM, km_37_30 hM, km_37_31 hM, km_37_32 hM, kmo_37 hM, kma_38 hM, kma_39 hM, kma_40 hM, kma_41 hM, kma_42 hM, kma_43 hM, kma_44 hM, kma_45 hM, kma_46 hM, kma_47 hM, kma_48 hM, kma_49 hM, kma_50 hM, kma_52 hM, kma_53 hM, kma_54 hM, kma_55 hM, kma_56 hM, kma_51 hM, T_X7_isSheet, T_X7_in, c1, c2, hv, nI_clamp h31, c3', c4, c5]
            exact hT4
        · have hT2 := hT2 c3 c4
          simp only [sg_X7_item_0, sg_X7_item_16, sg_X7_item_18, sg_X7_item_30, sg_X7_item_43, sg_X7_item_62, sg_X7_item_82, sg_X7_item_93, sg_X7_item_95, cd_X7_item, jwp, o_ic, o_lc, o_iload, o_lload, o_aload, o_istore, o_lstore, o_astore, o_iinc, o_pop, o_dup, o_dup2, o_iadd, o_isub, o_imul, o_iand, o_ior, o_ishl, o_ladd, o_lmul, o_land, o_lor, o_idiv, o_irem, o_ineg, o_i2l, o_l2i, o_i2b, o_i2s, o_lushr, o_lshr, o_lshl, o_lcmp, o_ifeq, o_ifne, o_iflt, o_ifge, o_ifgt, o_ifle, o_iceq, o_icne, o_iclt, o_icge, o_icgt, o_icle, o_goto, o_tsw, jsw, o_lsw, jlk, o_getf, o_putf, o_putz, o_iald, o_zald, o_iast, o_zast, o_aald, o_alen, o_gets, o_zld, o_zlen, o_cpy, o_call, o_callV, o_ireti, o_iretz, o_lret, o_vret, jg, js, jkp, jkill, jsp, jcs, jfw, jov, Value.category, Option.toList_some, Option.toList_none, List.nil_append, List.cons_append, List.append_nil, Nat.reduceAdd, true_and, and_true, jb0, jb01, jb1, jem, true_or, or_true, Classical.not_not, forall_const, List.length_cons, List.length_nil, Nat.reduceLeDiff, Nat.zero_le, Nat.reduceLT, and_self, not_true_eq_false, not_false_eq_true, false_imp_iff, true_imp_iff, implies_true, and_false, false_and, or_false, false_or, hM, km_37_0 hM, km_37_1 hM, km_37_2 hM, km_37_3 hM, km_37_4 hM, km_37_5 hM, km_37_6 hM, km_37_7 hM, km_37_8 hM, km_37_9 hM, km_37_10 hM, km_37_11 hM, km_37_12 hM, km_37_13 hM, km_37_14 hM, km_37_15 hM, km_37_16 hM, km_37_17 hM, km_37_18 hM, km_37_19 hM, km_37_20 hM, km_37_21 hM, km_37_22 hM, km_37_23 hM, km_37_24 hM, km_37_25 hM, km_37_26 hM, km_37_27 hM, km_37_28 hM, km_37_29 hM, km_37_30 hM, km_37_31 hM, km_37_32 hM, kmo_37 hM, kma_38 hM, kma_39 hM, kma_40 hM, kma_41 hM, kma_42 hM, kma_43 hM, kma_44 hM, kma_45 hM, kma_46 hM, kma_47 hM, kma_48 hM, kma_49 hM, kma_50 hM, kma_52 hM, kma_53 hM, kma_54 hM, kma_55 hM, kma_56 hM, kma_51 hM, T_X7_isSheet, T_X7_in, c1, c2, hv, nI_clamp h31, c3', c4]
          exact hT2
    · have hT0 := hT0 (fun z => c2 z.2)
      simp only [sg_X7_item_0, sg_X7_item_16, sg_X7_item_18, sg_X7_item_30, sg_X7_item_43, sg_X7_item_62, sg_X7_item_82, sg_X7_item_93, sg_X7_item_95, cd_X7_item, jwp, o_ic, o_lc, o_iload, o_lload, o_aload, o_istore, o_lstore, o_astore, o_iinc, o_pop, o_dup, o_dup2, o_iadd, o_isub, o_imul, o_iand, o_ior, o_ishl, o_ladd, o_lmul, o_land, o_lor, o_idiv, o_irem, o_ineg, o_i2l, o_l2i, o_i2b, o_i2s, o_lushr, o_lshr, o_lshl, o_lcmp, o_ifeq, o_ifne, o_iflt, o_ifge, o_ifgt, o_ifle, o_iceq, o_icne, o_iclt, o_icge, o_icgt, o_icle, o_goto, o_tsw, jsw, o_lsw, jlk, o_getf, o_putf, o_putz, o_iald, o_zald, o_iast, o_zast, o_aald, o_alen, o_gets, o_zld, o_zlen, o_cpy, o_call, o_callV, o_ireti, o_iretz, o_lret, o_vret, jg, js, jkp, jkill, jsp, jcs, jfw, jov, Value.category, Option.toList_some, Option.toList_none, List.nil_append, List.cons_append, List.append_nil, Nat.reduceAdd, true_and, and_true, jb0, jb01, jb1, jem, true_or, or_true, Classical.not_not, forall_const, List.length_cons, List.length_nil, Nat.reduceLeDiff, Nat.zero_le, Nat.reduceLT, and_self, not_true_eq_false, not_false_eq_true, false_imp_iff, true_imp_iff, implies_true, and_false, false_and, or_false, false_or, hM, km_37_0 hM, km_37_1 hM, km_37_2 hM, km_37_3 hM, km_37_4 hM, km_37_5 hM, km_37_6 hM, km_37_7 hM, km_37_8 hM, km_37_9 hM, km_37_10 hM, km_37_11 hM, km_37_12 hM, km_37_13 hM, km_37_14 hM, km_37_15 hM, km_37_16 hM, km_37_17 hM, km_37_18 hM, km_37_19 hM, km_37_20 hM, km_37_21 hM, km_37_22 hM, km_37_23 hM, km_37_24 hM, km_37_25 hM, km_37_26 hM, km_37_27 hM, km_37_28 hM, km_37_29 hM, km_37_30 hM, km_37_31 hM, km_37_32 hM, kmo_37 hM, kma_38 hM, kma_39 hM, kma_40 hM, kma_41 hM, kma_42 hM, kma_43 hM, kma_44 hM, kma_45 hM, kma_46 hM, kma_47 hM, kma_48 hM, kma_49 hM, kma_50 hM, kma_52 hM, kma_53 hM, kma_54 hM, kma_55 hM, kma_56 hM, kma_51 hM, T_X7_isSheet, T_X7_in, c1, c2]
      exact hT0
  · have hT0 := hT0 (fun z => c1 z.1)
    simp only [sg_X7_item_0, sg_X7_item_16, sg_X7_item_18, sg_X7_item_30, sg_X7_item_43, sg_X7_item_62, sg_X7_item_82, sg_X7_item_93, sg_X7_item_95, cd_X7_item, jwp, o_ic, o_lc, o_iload, o_lload, o_aload, o_istore, o_lstore, o_astore, o_iinc, o_pop, o_dup, o_dup2, o_iadd, o_isub, o_imul, o_iand, o_ior, o_ishl, o_ladd, o_lmul, o_land, o_lor, o_idiv, o_irem, o_ineg, o_i2l, o_l2i, o_i2b, o_i2s, o_lushr, o_lshr, o_lshl, o_lcmp, o_ifeq, o_ifne, o_iflt, o_ifge, o_ifgt, o_ifle, o_iceq, o_icne, o_iclt, o_icge, o_icgt, o_icle, o_goto, o_tsw, jsw, o_lsw, jlk, o_getf, o_putf, o_putz, o_iald, o_zald, o_iast, o_zast, o_aald, o_alen, o_gets, o_zld, o_zlen, o_cpy, o_call, o_callV, o_ireti, o_iretz, o_lret, o_vret, jg, js, jkp, jkill, jsp, jcs, jfw, jov, Value.category, Option.toList_some, Option.toList_none, List.nil_append, List.cons_append, List.append_nil, Nat.reduceAdd, true_and, and_true, jb0, jb01, jb1, jem, true_or, or_true, Classical.not_not, forall_const, List.length_cons, List.length_nil, Nat.reduceLeDiff, Nat.zero_le, Nat.reduceLT, and_self, not_true_eq_false, not_false_eq_true, false_imp_iff, true_imp_iff, implies_true, and_false, false_and, or_false, false_or, hM, km_37_0 hM, km_37_1 hM, km_37_2 hM, km_37_3 hM, km_37_4 hM, km_37_5 hM, km_37_6 hM, km_37_7 hM, km_37_8 hM, km_37_9 hM, km_37_10 hM, km_37_11 hM, km_37_12 hM, km_37_13 hM, km_37_14 hM, km_37_15 hM, km_37_16 hM, km_37_17 hM, km_37_18 hM, km_37_19 hM, km_37_20 hM, km_37_21 hM, km_37_22 hM, km_37_23 hM, km_37_24 hM, km_37_25 hM, km_37_26 hM, km_37_27 hM, km_37_28 hM, km_37_29 hM, km_37_30 hM, km_37_31 hM, km_37_32 hM, kmo_37 hM, kma_38 hM, kma_39 hM, kma_40 hM, kma_41 hM, kma_42 hM, kma_43 hM, kma_44 hM, kma_45 hM, kma_46 hM, kma_47 hM, kma_48 hM, kma_49 hM, kma_50 hM, kma_52 hM, kma_53 hM, kma_54 hM, kma_55 hM, kma_56 hM, kma_51 hM, T_X7_isSheet, T_X7_in, c1]
    exact hT0
theorem m_X7_item (l : Launch) : jHolds vwCl l yX7_item wsX7_item 2 42 0 0 T_X7_item := by
  refine m_X7_item_of l (fun G Q vs K h H0 hT => ?_)
  unfold T_X7_item at hT
  split at hT
  · obtain ⟨rfl, hT⟩ := hT
    exact ⟨Nat.le_of_ble_eq_true rfl, v_X7_item hT H0⟩
  · exact hT.elim

/-! X7_sheet -/
/-- items b .. b + k - 1 are 0 -/
def mwipe (h : jM) (b : Nat) : Nat → jM
  | 0 => h
  | k + 1 => up2 (mwipe h b k) 55 (b + k) 0
theorem mwipe_s (h : jM) (b k : Nat) : mwipe h b (k + 1) = up2 (mwipe h b k) 55 (b + k) 0 := rfl
def T_X7_sheet : jT := fun vs K h Q => match vs with
  | [.ref r0, .int s, .int l, .int n] => r0 = 37 ∧ (jXM K ∧ (¬ ((0 ≤ s ∧ s ≤ 3) ∧ (0 ≤ l ∧ l ≤ 2) ∧ n ≤ 60) → Q (some (.int (-1))) K h) ∧ ((0 ≤ s ∧ s ≤ 3) ∧ (0 ≤ l ∧ l ≤ 2) ∧ n ≤ 60 → (n < 0 → Q (some (.int (-14))) K h) ∧ (¬ n < 0 → Q (some (.int n)) K (mwipe (up2 (up2 h 53 s.toNatClampNeg l) 54 s.toNatClampNeg n) (60 * s.toNatClampNeg) 60))))
  | _ => False
def sg_X7_sheet_0 : jS := [(o_iload 1, 1), (o_call 1 T_X7_isSheet, 3), (o_ifeq 22, 3), (o_iload 2, 1), (o_ic (0), 1), (o_ic (2), 1), (o_call 3 T_X7_in, 3), (o_ifeq 22, 3), (o_iload 3, 1), (o_ic (60), 2), (o_icle 24, 3), (o_ic (-1), 1), (o_ireti, 1)]
def sg_X7_sheet_22 : jS := [(o_ic (-1), 1), (o_ireti, 1)]
def sg_X7_sheet_24 : jS := [(o_iload 3, 1), (o_ifge 31, 3), (o_ic (-14), 2), (o_ireti, 1)]
def sg_X7_sheet_31 : jS := [(o_aload 0, 1), (o_getf 7 29, 3), (o_iload 1, 1), (o_iload 2, 1), (o_iast, 1), (o_aload 0, 1), (o_getf 7 30, 3), (o_iload 1, 1), (o_iload 3, 1), (o_iast, 1), (o_ic (0), 1), (o_istore 4, 2)]
def sg_X7_sheet_48 : jS := [(o_iload 4, 2), (o_ic (60), 2), (o_icge 74, 3), (o_aload 0, 1), (o_getf 7 31, 3), (o_ic (60), 2), (o_iload 1, 1), (o_imul, 1), (o_iload 4, 2), (o_iadd, 1), (o_ic (0), 1), (o_iast, 1), (o_iinc 4 (1), 3), (o_goto 48, 3)]
def sg_X7_sheet_74 : jS := [(o_iload 3, 1), (o_ireti, 1)]
def cd_X7_sheet : Nat → jS := fun t => match t with
  | 22 => sg_X7_sheet_22
  | 24 => sg_X7_sheet_24
  | 31 => sg_X7_sheet_31
  | 74 => sg_X7_sheet_74
  | _ => []
theorem wl_X7_sheet_61 : Cond.fieldLink RX7 61 (TX7 29).1 (TX7 29).2.1 (TX7 29).2.2.1 ∈ wsX7_sheet := by decide +kernel
theorem wl_X7_sheet_64 : Cond.fieldLink RX7 64 (TX7 30).1 (TX7 30).2.1 (TX7 30).2.2.1 ∈ wsX7_sheet := by decide +kernel
theorem wl_X7_sheet_67 : Cond.fieldLink RX7 67 (TX7 31).1 (TX7 31).2.1 (TX7 31).2.2.1 ∈ wsX7_sheet := by decide +kernel
theorem wi_X7_sheet_X7 : ∀ w ∈ u_ws RX7 TX7 33, w ∈ wsX7_sheet := by decide +kernel
def E_X7_sheet (Γ : jΓ) (Q : jPost) : Prop := Γ.2.2.2.2.2.2.2.2.2.2.1 = 5 ∧ Γ.2.2.2.2.2.2.2.2.2.2.2.1 = vwCl ∧ jC Γ cX7_sheet RX7 "sheet" (some .int) wsX7_sheet 2 42 0 0 ∧ jR Γ Q 0 0
theorem oo_X7_sheet_0 {Γ : jΓ} {Q : jPost} (E : E_X7_sheet Γ Q) : jSA Γ Q 0 (o_iload 1) 1 := so_iload_n E.2.2.1 rfl dX7_sheet_0
theorem oo_X7_sheet_1 {Γ : jΓ} {Q : jPost} (E : E_X7_sheet Γ Q) : jSA Γ Q 1 (o_call 1 T_X7_isSheet) 3 := so_callS E.2.2.1 gX7_sheet_X7_isSheet (by decide +kernel) rfl (by rw [E.2.1]; exact m_X7_isSheet _) (by decide) (by decide) dX7_sheet_1
theorem oo_X7_sheet_4 {Γ : jΓ} {Q : jPost} (E : E_X7_sheet Γ Q) : jSA Γ Q 4 (o_ifeq 22) 3 := so_ifeq E.2.2.1 (by decide) dX7_sheet_4
theorem oo_X7_sheet_7 {Γ : jΓ} {Q : jPost} (E : E_X7_sheet Γ Q) : jSA Γ Q 7 (o_iload 2) 1 := so_iload_n E.2.2.1 rfl dX7_sheet_7
theorem oo_X7_sheet_8 {Γ : jΓ} {Q : jPost} (E : E_X7_sheet Γ Q) : jSA Γ Q 8 (o_ic (0)) 1 := so_iconst E.2.2.1 rfl dX7_sheet_8
theorem oo_X7_sheet_9 {Γ : jΓ} {Q : jPost} (E : E_X7_sheet Γ Q) : jSA Γ Q 9 (o_ic (2)) 1 := so_iconst E.2.2.1 rfl dX7_sheet_9
theorem oo_X7_sheet_10 {Γ : jΓ} {Q : jPost} (E : E_X7_sheet Γ Q) : jSA Γ Q 10 (o_call 3 T_X7_in) 3 := so_callS E.2.2.1 gX7_sheet_X7_in (by decide +kernel) rfl (by rw [E.2.1]; exact m_X7_in _) (by decide) (by decide) dX7_sheet_10
theorem oo_X7_sheet_13 {Γ : jΓ} {Q : jPost} (E : E_X7_sheet Γ Q) : jSA Γ Q 13 (o_ifeq 22) 3 := so_ifeq E.2.2.1 (by decide) dX7_sheet_13
theorem oo_X7_sheet_16 {Γ : jΓ} {Q : jPost} (E : E_X7_sheet Γ Q) : jSA Γ Q 16 (o_iload 3) 1 := so_iload_n E.2.2.1 rfl dX7_sheet_16
theorem oo_X7_sheet_17 {Γ : jΓ} {Q : jPost} (E : E_X7_sheet Γ Q) : jSA Γ Q 17 (o_ic (60)) 2 := so_bipush E.2.2.1 rfl dX7_sheet_17
theorem oo_X7_sheet_19 {Γ : jΓ} {Q : jPost} (E : E_X7_sheet Γ Q) : jSA Γ Q 19 (o_icle 24) 3 := so_icle E.2.2.1 (by decide) dX7_sheet_19
theorem oo_X7_sheet_22 {Γ : jΓ} {Q : jPost} (E : E_X7_sheet Γ Q) : jSA Γ Q 22 (o_ic (-1)) 1 := so_iconst E.2.2.1 rfl dX7_sheet_22
theorem oo_X7_sheet_23 {Γ : jΓ} {Q : jPost} (E : E_X7_sheet Γ Q) : jSA Γ Q 23 (o_ireti) 1 := so_ireti E.2.2.1 E.2.2.2 dX7_sheet_23
theorem oo_X7_sheet_24 {Γ : jΓ} {Q : jPost} (E : E_X7_sheet Γ Q) : jSA Γ Q 24 (o_iload 3) 1 := so_iload_n E.2.2.1 rfl dX7_sheet_24
theorem oo_X7_sheet_25 {Γ : jΓ} {Q : jPost} (E : E_X7_sheet Γ Q) : jSA Γ Q 25 (o_ifge 31) 3 := so_ifge E.2.2.1 (by decide) dX7_sheet_25
theorem oo_X7_sheet_28 {Γ : jΓ} {Q : jPost} (E : E_X7_sheet Γ Q) : jSA Γ Q 28 (o_ic (-14)) 2 := so_bipush E.2.2.1 rfl dX7_sheet_28
theorem oo_X7_sheet_30 {Γ : jΓ} {Q : jPost} (E : E_X7_sheet Γ Q) : jSA Γ Q 30 (o_ireti) 1 := so_ireti E.2.2.1 E.2.2.2 dX7_sheet_30
theorem oo_X7_sheet_31 {Γ : jΓ} {Q : jPost} (E : E_X7_sheet Γ Q) : jSA Γ Q 31 (o_aload 0) 1 := so_aload_n E.2.2.1 rfl dX7_sheet_31
theorem oo_X7_sheet_32 {Γ : jΓ} {Q : jPost} (E : E_X7_sheet Γ Q) : jSA Γ Q 32 (o_getf 7 29) 3 := so_getf (ci := 7) E.2.2.1 wi_X7_sheet_X7 (by rw [E.2.1]; rfl) 29 (by decide) wl_X7_sheet_61 dX7_sheet_32
theorem oo_X7_sheet_35 {Γ : jΓ} {Q : jPost} (E : E_X7_sheet Γ Q) : jSA Γ Q 35 (o_iload 1) 1 := so_iload_n E.2.2.1 rfl dX7_sheet_35
theorem oo_X7_sheet_36 {Γ : jΓ} {Q : jPost} (E : E_X7_sheet Γ Q) : jSA Γ Q 36 (o_iload 2) 1 := so_iload_n E.2.2.1 rfl dX7_sheet_36
theorem oo_X7_sheet_37 {Γ : jΓ} {Q : jPost} (E : E_X7_sheet Γ Q) : jSA Γ Q 37 (o_iast) 1 := so_iast E.2.2.1 dX7_sheet_37
theorem oo_X7_sheet_38 {Γ : jΓ} {Q : jPost} (E : E_X7_sheet Γ Q) : jSA Γ Q 38 (o_aload 0) 1 := so_aload_n E.2.2.1 rfl dX7_sheet_38
theorem oo_X7_sheet_39 {Γ : jΓ} {Q : jPost} (E : E_X7_sheet Γ Q) : jSA Γ Q 39 (o_getf 7 30) 3 := so_getf (ci := 7) E.2.2.1 wi_X7_sheet_X7 (by rw [E.2.1]; rfl) 30 (by decide) wl_X7_sheet_64 dX7_sheet_39
theorem oo_X7_sheet_42 {Γ : jΓ} {Q : jPost} (E : E_X7_sheet Γ Q) : jSA Γ Q 42 (o_iload 1) 1 := so_iload_n E.2.2.1 rfl dX7_sheet_42
theorem oo_X7_sheet_43 {Γ : jΓ} {Q : jPost} (E : E_X7_sheet Γ Q) : jSA Γ Q 43 (o_iload 3) 1 := so_iload_n E.2.2.1 rfl dX7_sheet_43
theorem oo_X7_sheet_44 {Γ : jΓ} {Q : jPost} (E : E_X7_sheet Γ Q) : jSA Γ Q 44 (o_iast) 1 := so_iast E.2.2.1 dX7_sheet_44
theorem oo_X7_sheet_45 {Γ : jΓ} {Q : jPost} (E : E_X7_sheet Γ Q) : jSA Γ Q 45 (o_ic (0)) 1 := so_iconst E.2.2.1 rfl dX7_sheet_45
theorem oo_X7_sheet_46 {Γ : jΓ} {Q : jPost} (E : E_X7_sheet Γ Q) : jSA Γ Q 46 (o_istore 4) 2 := so_istore E.2.2.1 (by rw [E.1]; decide) dX7_sheet_46
theorem oo_X7_sheet_48 {Γ : jΓ} {Q : jPost} (E : E_X7_sheet Γ Q) : jSA Γ Q 48 (o_iload 4) 2 := so_iload E.2.2.1 dX7_sheet_48
theorem oo_X7_sheet_50 {Γ : jΓ} {Q : jPost} (E : E_X7_sheet Γ Q) : jSA Γ Q 50 (o_ic (60)) 2 := so_bipush E.2.2.1 rfl dX7_sheet_50
theorem oo_X7_sheet_52 {Γ : jΓ} {Q : jPost} (E : E_X7_sheet Γ Q) : jSA Γ Q 52 (o_icge 74) 3 := so_icge E.2.2.1 (by decide) dX7_sheet_52
theorem oo_X7_sheet_55 {Γ : jΓ} {Q : jPost} (E : E_X7_sheet Γ Q) : jSA Γ Q 55 (o_aload 0) 1 := so_aload_n E.2.2.1 rfl dX7_sheet_55
theorem oo_X7_sheet_56 {Γ : jΓ} {Q : jPost} (E : E_X7_sheet Γ Q) : jSA Γ Q 56 (o_getf 7 31) 3 := so_getf (ci := 7) E.2.2.1 wi_X7_sheet_X7 (by rw [E.2.1]; rfl) 31 (by decide) wl_X7_sheet_67 dX7_sheet_56
theorem oo_X7_sheet_59 {Γ : jΓ} {Q : jPost} (E : E_X7_sheet Γ Q) : jSA Γ Q 59 (o_ic (60)) 2 := so_bipush E.2.2.1 rfl dX7_sheet_59
theorem oo_X7_sheet_61 {Γ : jΓ} {Q : jPost} (E : E_X7_sheet Γ Q) : jSA Γ Q 61 (o_iload 1) 1 := so_iload_n E.2.2.1 rfl dX7_sheet_61
theorem oo_X7_sheet_62 {Γ : jΓ} {Q : jPost} (E : E_X7_sheet Γ Q) : jSA Γ Q 62 (o_imul) 1 := so_imul E.2.2.1 dX7_sheet_62
theorem oo_X7_sheet_63 {Γ : jΓ} {Q : jPost} (E : E_X7_sheet Γ Q) : jSA Γ Q 63 (o_iload 4) 2 := so_iload E.2.2.1 dX7_sheet_63
theorem oo_X7_sheet_65 {Γ : jΓ} {Q : jPost} (E : E_X7_sheet Γ Q) : jSA Γ Q 65 (o_iadd) 1 := so_iadd E.2.2.1 dX7_sheet_65
theorem oo_X7_sheet_66 {Γ : jΓ} {Q : jPost} (E : E_X7_sheet Γ Q) : jSA Γ Q 66 (o_ic (0)) 1 := so_iconst E.2.2.1 rfl dX7_sheet_66
theorem oo_X7_sheet_67 {Γ : jΓ} {Q : jPost} (E : E_X7_sheet Γ Q) : jSA Γ Q 67 (o_iast) 1 := so_iast E.2.2.1 dX7_sheet_67
theorem oo_X7_sheet_68 {Γ : jΓ} {Q : jPost} (E : E_X7_sheet Γ Q) : jSA Γ Q 68 (o_iinc 4 (1)) 3 := so_iinc E.2.2.1 rfl (by rw [E.1]; decide) dX7_sheet_68
theorem oo_X7_sheet_71 {Γ : jΓ} {Q : jPost} (E : E_X7_sheet Γ Q) : jSA Γ Q 71 (o_goto 48) 3 := so_goto E.2.2.1 (by decide) dX7_sheet_71
theorem oo_X7_sheet_74 {Γ : jΓ} {Q : jPost} (E : E_X7_sheet Γ Q) : jSA Γ Q 74 (o_iload 3) 1 := so_iload_n E.2.2.1 rfl dX7_sheet_74
theorem oo_X7_sheet_75 {Γ : jΓ} {Q : jPost} (E : E_X7_sheet Γ Q) : jSA Γ Q 75 (o_ireti) 1 := so_ireti E.2.2.1 E.2.2.2 dX7_sheet_75
theorem ok_X7_sheet_0 {Γ : jΓ} {Q : jPost} (E : E_X7_sheet Γ Q) : jSS Γ Q 0 sg_X7_sheet_0 := ⟨oo_X7_sheet_0 E, oo_X7_sheet_1 E, oo_X7_sheet_4 E, oo_X7_sheet_7 E, oo_X7_sheet_8 E, oo_X7_sheet_9 E, oo_X7_sheet_10 E, oo_X7_sheet_13 E, oo_X7_sheet_16 E, oo_X7_sheet_17 E, oo_X7_sheet_19 E, oo_X7_sheet_22 E, oo_X7_sheet_23 E, trivial⟩
theorem ok_X7_sheet_22 {Γ : jΓ} {Q : jPost} (E : E_X7_sheet Γ Q) : jSS Γ Q 22 sg_X7_sheet_22 := ⟨oo_X7_sheet_22 E, oo_X7_sheet_23 E, trivial⟩
theorem ok_X7_sheet_24 {Γ : jΓ} {Q : jPost} (E : E_X7_sheet Γ Q) : jSS Γ Q 24 sg_X7_sheet_24 := ⟨oo_X7_sheet_24 E, oo_X7_sheet_25 E, oo_X7_sheet_28 E, oo_X7_sheet_30 E, trivial⟩
theorem ok_X7_sheet_31 {Γ : jΓ} {Q : jPost} (E : E_X7_sheet Γ Q) : jSS Γ Q 31 sg_X7_sheet_31 := ⟨oo_X7_sheet_31 E, oo_X7_sheet_32 E, oo_X7_sheet_35 E, oo_X7_sheet_36 E, oo_X7_sheet_37 E, oo_X7_sheet_38 E, oo_X7_sheet_39 E, oo_X7_sheet_42 E, oo_X7_sheet_43 E, oo_X7_sheet_44 E, oo_X7_sheet_45 E, oo_X7_sheet_46 E, trivial⟩
theorem ok_X7_sheet_48 {Γ : jΓ} {Q : jPost} (E : E_X7_sheet Γ Q) : jSS Γ Q 48 sg_X7_sheet_48 := ⟨oo_X7_sheet_48 E, oo_X7_sheet_50 E, oo_X7_sheet_52 E, oo_X7_sheet_55 E, oo_X7_sheet_56 E, oo_X7_sheet_59 E, oo_X7_sheet_61 E, oo_X7_sheet_62 E, oo_X7_sheet_63 E, oo_X7_sheet_65 E, oo_X7_sheet_66 E, oo_X7_sheet_67 E, oo_X7_sheet_68 E, oo_X7_sheet_71 E, trivial⟩
theorem ok_X7_sheet_74 {Γ : jΓ} {Q : jPost} (E : E_X7_sheet Γ Q) : jSS Γ Q 74 sg_X7_sheet_74 := ⟨oo_X7_sheet_74 E, oo_X7_sheet_75 E, trivial⟩
theorem okc_X7_sheet {Γ : jΓ} {Q : jPost} (E : E_X7_sheet Γ Q) (t : Nat) : jSS Γ Q t (cd_X7_sheet t) := by
  unfold cd_X7_sheet
  split
  · exact ok_X7_sheet_22 E
  · exact ok_X7_sheet_24 E
  · exact ok_X7_sheet_31 E
  · exact ok_X7_sheet_74 E
  · trivial
theorem m_X7_sheet_of (l : Launch) (hv : ∀ (G : jGt) (Q : jPost) (vs : List Value) (K : List jK) (h : jM), jHd cd_X7_sheet G Q sg_X7_sheet_0 0 → jHd cd_X7_sheet G Q sg_X7_sheet_48 48 → T_X7_sheet vs K h Q → (lg_sl vs).length ≤ 5 ∧ G 0 (jinit vs 5) [] K h 0 0) : jHolds vwCl l yX7_sheet wsX7_sheet 2 42 0 0 T_X7_sheet := by
  refine jMet (cc := cX7_sheet) (maxL := 5) (rt := (some .int)) (by decide +kernel) rfl (fun Γ Q vs K h hl hn hcl C hR hT => hv (jG Γ) Q vs K h ?_ ?_ hT)
  · exact fun n L st K h ce sl => jwp_ok (okc_X7_sheet ⟨hn, hcl, C, hR⟩) n sg_X7_sheet_0 0 (ok_X7_sheet_0 ⟨hn, hcl, C, hR⟩) L st K h ce sl
  · exact fun n L st K h ce sl => jwp_ok (okc_X7_sheet ⟨hn, hcl, C, hR⟩) n sg_X7_sheet_48 48 (ok_X7_sheet_48 ⟨hn, hcl, C, hR⟩) L st K h ce sl
set_option maxHeartbeats 4000000 in
set_option maxRecDepth 100000 in
theorem v_X7_sheet {G : jGt} {Q : jPost} {K : List jK} {h : jM} {s : Int32} {l : Int32} {n : Int32} (hT : jXM K ∧ (¬ ((0 ≤ s ∧ s ≤ 3) ∧ (0 ≤ l ∧ l ≤ 2) ∧ n ≤ 60) → Q (some (.int (-1))) K h) ∧ ((0 ≤ s ∧ s ≤ 3) ∧ (0 ≤ l ∧ l ≤ 2) ∧ n ≤ 60 → (n < 0 → Q (some (.int (-14))) K h) ∧ (¬ n < 0 → Q (some (.int n)) K (mwipe (up2 (up2 h 53 s.toNatClampNeg l) 54 s.toNatClampNeg n) (60 * s.toNatClampNeg) 60)))) (H0 : jHd cd_X7_sheet G Q sg_X7_sheet_0 0) (H48 : jHd cd_X7_sheet G Q sg_X7_sheet_48 48) : G 0 [some (.ref 37), some (.int s), some (.int l), some (.int n), none] [] K h 0 0 := by
  obtain ⟨hM, hT0, hT1⟩ := hT
  by_cases c1 : 0 ≤ s ∧ s ≤ 3
  · obtain ⟨j, hj, rfl⟩ := sh_of c1
    have h31 : j < 2147483648 := by omega
    have hv : vp_in (nI j) 4 := vp_in_nI hj (by decide)
    by_cases c2 : 0 ≤ l ∧ l ≤ 2
    · by_cases c3 : n ≤ 60
      · have hT1 := hT1 ⟨c1, c2, c3⟩
        rw [nI_clamp h31] at hT1
        obtain ⟨hT1, hT2⟩ := hT1
        by_cases c4 : n < 0
        · have hT1 := hT1 c4
          have c4' := Int32.not_le.mpr c4
          refine H0 80 _ _ _ _ _ _ ?_
          simp only [sg_X7_sheet_0, sg_X7_sheet_22, sg_X7_sheet_24, sg_X7_sheet_31, sg_X7_sheet_48, sg_X7_sheet_74, cd_X7_sheet, jwp, o_ic, o_lc, o_iload, o_lload, o_aload, o_istore, o_lstore, o_astore, o_iinc, o_pop, o_dup, o_dup2, o_iadd, o_isub, o_imul, o_iand, o_ior, o_ishl, o_ladd, o_lmul, o_land, o_lor, o_idiv, o_irem, o_ineg, o_i2l, o_l2i, o_i2b, o_i2s, o_lushr, o_lshr, o_lshl, o_lcmp, o_ifeq, o_ifne, o_iflt, o_ifge, o_ifgt, o_ifle, o_iceq, o_icne, o_iclt, o_icge, o_icgt, o_icle, o_goto, o_tsw, jsw, o_lsw, jlk, o_getf, o_putf, o_putz, o_iald, o_zald, o_iast, o_zast, o_aald, o_alen, o_gets, o_zld, o_zlen, o_cpy, o_call, o_callV, o_ireti, o_iretz, o_lret, o_vret, jg, js, jkp, jkill, jsp, jcs, jfw, jov, Value.category, Option.toList_some, Option.toList_none, List.nil_append, List.cons_append, List.append_nil, Nat.reduceAdd, true_and, and_true, jb0, jb01, jb1, jem, true_or, or_true, Classical.not_not, forall_const, List.length_cons, List.length_nil, Nat.reduceLeDiff, Nat.zero_le, Nat.reduceLT, and_self, not_true_eq_false, not_false_eq_true, false_imp_iff, true_imp_iff, implies_true, and_false, false_and, or_false, false_or, hM, km_37_0 hM, km_37_1 hM, km_37_2 hM, km_37_3 hM, km_37_4 hM, km_37_5 hM, km_37_6 hM, km_37_7 hM, km_37_8 hM, km_37_9 hM, km_37_10 hM, km_37_11 hM, km_37_12 hM, km_37_13 hM, km_37_14 hM, km_37_15 hM, km_37_16 hM, km_37_17 hM, km_37_18 hM, km_37_19 hM, km_37_20 hM, km_37_21 hM, km_37_22 hM, km_37_23 hM, km_37_24 hM, km_37_25 hM, km_37_26 hM, km_37_27 hM, km_37_28 hM, km_37_29 hM, km_37_30 hM, km_37_31 hM, km_37_32 hM, kmo_37 hM, kma_38 hM, kma_39 hM, kma_40 hM, kma_41 hM, kma_42 hM, kma_43 hM, kma_44 hM, kma_45 hM, kma_46 hM, kma_47 hM, kma_48 hM, kma_49 hM, kma_50 hM, kma_52 hM, kma_53 hM, kma_54 hM, kma_55 hM, kma_56 hM, kma_51 hM, T_X7_isSheet, T_X7_in, c1, c2, c3, c4', hv, nI_clamp h31]
          exact hT1
        · have hT2 := hT2 c4
          have c4' := Int32.not_lt.mp c4
          have loop : ∀ m k, k + m = 60 → G 48 [some (.ref 37), some (.int (nI j)), some (.int l), some (.int n), some (.int (nI k))] [] K (mwipe (up2 (up2 h 53 j l) 54 j n) (60 * j) k) 0 0 := by
            intro m
            induction m with
            | zero =>
              intro k hk
              have ek : k = 60 := by omega
              subst ek
              refine H48 60 _ _ _ _ _ _ ?_
              simp only [sg_X7_sheet_0, sg_X7_sheet_22, sg_X7_sheet_24, sg_X7_sheet_31, sg_X7_sheet_48, sg_X7_sheet_74, cd_X7_sheet, jwp, o_ic, o_lc, o_iload, o_lload, o_aload, o_istore, o_lstore, o_astore, o_iinc, o_pop, o_dup, o_dup2, o_iadd, o_isub, o_imul, o_iand, o_ior, o_ishl, o_ladd, o_lmul, o_land, o_lor, o_idiv, o_irem, o_ineg, o_i2l, o_l2i, o_i2b, o_i2s, o_lushr, o_lshr, o_lshl, o_lcmp, o_ifeq, o_ifne, o_iflt, o_ifge, o_ifgt, o_ifle, o_iceq, o_icne, o_iclt, o_icge, o_icgt, o_icle, o_goto, o_tsw, jsw, o_lsw, jlk, o_getf, o_putf, o_putz, o_iald, o_zald, o_iast, o_zast, o_aald, o_alen, o_gets, o_zld, o_zlen, o_cpy, o_call, o_callV, o_ireti, o_iretz, o_lret, o_vret, jg, js, jkp, jkill, jsp, jcs, jfw, jov, Value.category, Option.toList_some, Option.toList_none, List.nil_append, List.cons_append, List.append_nil, Nat.reduceAdd, true_and, and_true, jb0, jb01, jb1, jem, true_or, or_true, Classical.not_not, forall_const, List.length_cons, List.length_nil, Nat.reduceLeDiff, Nat.zero_le, Nat.reduceLT, and_self, not_true_eq_false, not_false_eq_true, false_imp_iff, true_imp_iff, implies_true, and_false, false_and, or_false, false_or, hM, km_37_0 hM, km_37_1 hM, km_37_2 hM, km_37_3 hM, km_37_4 hM, km_37_5 hM, km_37_6 hM, km_37_7 hM, km_37_8 hM, km_37_9 hM, km_37_10 hM, km_37_11 hM, km_37_12 hM, km_37_13 hM, km_37_14 hM, km_37_15 hM, km_37_16 hM, km_37_17 hM, km_37_18 hM, km_37_19 hM, km_37_20 hM, km_37_21 hM, km_37_22 hM, km_37_23 hM, km_37_24 hM, km_37_25 hM, km_37_26 hM, km_37_27 hM, km_37_28 hM, km_37_29 hM, km_37_30 hM, km_37_31 hM, km_37_32 hM, kmo_37 hM, kma_38 hM, kma_39 hM, kma_40 hM, kma_41 hM, kma_42 hM, kma_43 hM, kma_44 hM, kma_45 hM, kma_46 hM, kma_47 hM, kma_48 hM, kma_49 hM, kma_50 hM, kma_52 hM, kma_53 hM, kma_54 hM, kma_55 hM, kma_56 hM, kma_51 hM]
              exact ⟨fun _ => hT2, fun z => absurd (by decide) z⟩
            | succ m ih =>
              intro k hk
              have h2 := ih (k + 1) (by omega)
              rw [mwipe_s] at h2
              have e60 : (60 : Int32) * nI j + nI k = nI (60 * j + k) := by
                rw [show (60 : Int32) = nI 60 from rfl, nI_mul, nI_add]
              have hvi : vp_in (nI (60 * j + k)) 240 := vp_in_nI (by omega) (by decide)
              have hlt : ¬ (60 : Int32) ≤ nI k := fun z => absurd ((nI_leI (a := 60) (by omega) (by omega)).mp z) (by omega)
              generalize mwipe (up2 (up2 h 53 j l) 54 j n) (60 * j) k = g at h2 ⊢
              refine H48 60 _ _ _ _ _ _ ?_
              simp only [sg_X7_sheet_0, sg_X7_sheet_22, sg_X7_sheet_24, sg_X7_sheet_31, sg_X7_sheet_48, sg_X7_sheet_74, cd_X7_sheet, jwp, o_ic, o_lc, o_iload, o_lload, o_aload, o_istore, o_lstore, o_astore, o_iinc, o_pop, o_dup, o_dup2, o_iadd, o_isub, o_imul, o_iand, o_ior, o_ishl, o_ladd, o_lmul, o_land, o_lor, o_idiv, o_irem, o_ineg, o_i2l, o_l2i, o_i2b, o_i2s, o_lushr, o_lshr, o_lshl, o_lcmp, o_ifeq, o_ifne, o_iflt, o_ifge, o_ifgt, o_ifle, o_iceq, o_icne, o_iclt, o_icge, o_icgt, o_icle, o_goto, o_tsw, jsw, o_lsw, jlk, o_getf, o_putf, o_putz, o_iald, o_zald, o_iast, o_zast, o_aald, o_alen, o_gets, o_zld, o_zlen, o_cpy, o_call, o_callV, o_ireti, o_iretz, o_lret, o_vret, jg, js, jkp, jkill, jsp, jcs, jfw, jov, Value.category, Option.toList_some, Option.toList_none, List.nil_append, List.cons_append, List.append_nil, Nat.reduceAdd, true_and, and_true, jb0, jb01, jb1, jem, true_or, or_true, Classical.not_not, forall_const, List.length_cons, List.length_nil, Nat.reduceLeDiff, Nat.zero_le, Nat.reduceLT, and_self, not_true_eq_false, not_false_eq_true, false_imp_iff, true_imp_iff, implies_true, and_false, false_and, or_false, false_or, hM, km_37_0 hM, km_37_1 hM, km_37_2 hM, km_37_3 hM, km_37_4 hM, km_37_5 hM, km_37_6 hM, km_37_7 hM, km_37_8 hM, km_37_9 hM, km_37_10 hM, km_37_11 hM, km_37_12 hM, km_37_13 hM, km_37_14 hM, km_37_15 hM, km_37_16 hM, km_37_17 hM, km_37_18 hM, km_37_19 hM, km_37_20 hM, km_37_21 hM, km_37_22 hM, km_37_23 hM, km_37_24 hM, km_37_25 hM, km_37_26 hM, km_37_27 hM, km_37_28 hM, km_37_29 hM, km_37_30 hM, km_37_31 hM, km_37_32 hM, kmo_37 hM, kma_38 hM, kma_39 hM, kma_40 hM, kma_41 hM, kma_42 hM, kma_43 hM, kma_44 hM, kma_45 hM, kma_46 hM, kma_47 hM, kma_48 hM, kma_49 hM, kma_50 hM, kma_52 hM, kma_53 hM, kma_54 hM, kma_55 hM, kma_56 hM, kma_51 hM, hlt, e60, hvi, nI_clamp (show 60 * j + k < 2147483648 by omega)]
              rw [nI_1]
              exact h2
          refine H0 80 _ _ _ _ _ _ ?_
          simp only [sg_X7_sheet_0, sg_X7_sheet_22, sg_X7_sheet_24, sg_X7_sheet_31, sg_X7_sheet_48, sg_X7_sheet_74, cd_X7_sheet, jwp, o_ic, o_lc, o_iload, o_lload, o_aload, o_istore, o_lstore, o_astore, o_iinc, o_pop, o_dup, o_dup2, o_iadd, o_isub, o_imul, o_iand, o_ior, o_ishl, o_ladd, o_lmul, o_land, o_lor, o_idiv, o_irem, o_ineg, o_i2l, o_l2i, o_i2b, o_i2s, o_lushr, o_lshr, o_lshl, o_lcmp, o_ifeq, o_ifne, o_iflt, o_ifge, o_ifgt, o_ifle, o_iceq, o_icne, o_iclt, o_icge, o_icgt, o_icle, o_goto, o_tsw, jsw, o_lsw, jlk, o_getf, o_putf, o_putz, o_iald, o_zald, o_iast, o_zast, o_aald, o_alen, o_gets, o_zld, o_zlen, o_cpy, o_call, o_callV, o_ireti, o_iretz, o_lret, o_vret, jg, js, jkp, jkill, jsp, jcs, jfw, jov, Value.category, Option.toList_some, Option.toList_none, List.nil_append, List.cons_append, List.append_nil, Nat.reduceAdd, true_and, and_true, jb0, jb01, jb1, jem, true_or, or_true, Classical.not_not, forall_const, List.length_cons, List.length_nil, Nat.reduceLeDiff, Nat.zero_le, Nat.reduceLT, and_self, not_true_eq_false, not_false_eq_true, false_imp_iff, true_imp_iff, implies_true, and_false, false_and, or_false, false_or, hM, km_37_0 hM, km_37_1 hM, km_37_2 hM, km_37_3 hM, km_37_4 hM, km_37_5 hM, km_37_6 hM, km_37_7 hM, km_37_8 hM, km_37_9 hM, km_37_10 hM, km_37_11 hM, km_37_12 hM, km_37_13 hM, km_37_14 hM, km_37_15 hM, km_37_16 hM, km_37_17 hM, km_37_18 hM, km_37_19 hM, km_37_20 hM, km_37_21 hM, km_37_22 hM, km_37_23 hM, km_37_24 hM, km_37_25 hM, km_37_26 hM, km_37_27 hM, km_37_28 hM, km_37_29 hM, km_37_30 hM, km_37_31 hM, km_37_32 hM, kmo_37 hM, kma_38 hM, kma_39 hM, kma_40 hM, kma_41 hM, kma_42 hM, kma_43 hM, kma_44 hM, kma_45 hM, kma_46 hM, kma_47 hM, kma_48 hM, kma_49 hM, kma_50 hM, kma_52 hM, kma_53 hM, kma_54 hM, kma_55 hM, kma_56 hM, kma_51 hM, T_X7_isSheet, T_X7_in, c1, c2, c3, c4', hv, nI_clamp h31]
          exact loop 60 0 (by omega)
      · have hT0 := hT0 (fun z => c3 z.2.2)
        refine H0 80 _ _ _ _ _ _ ?_
        simp only [sg_X7_sheet_0, sg_X7_sheet_22, sg_X7_sheet_24, sg_X7_sheet_31, sg_X7_sheet_48, sg_X7_sheet_74, cd_X7_sheet, jwp, o_ic, o_lc, o_iload, o_lload, o_aload, o_istore, o_lstore, o_astore, o_iinc, o_pop, o_dup, o_dup2, o_iadd, o_isub, o_imul, o_iand, o_ior, o_ishl, o_ladd, o_lmul, o_land, o_lor, o_idiv, o_irem, o_ineg, o_i2l, o_l2i, o_i2b, o_i2s, o_lushr, o_lshr, o_lshl, o_lcmp, o_ifeq, o_ifne, o_iflt, o_ifge, o_ifgt, o_ifle, o_iceq, o_icne, o_iclt, o_icge, o_icgt, o_icle, o_goto, o_tsw, jsw, o_lsw, jlk, o_getf, o_putf, o_putz, o_iald, o_zald, o_iast, o_zast, o_aald, o_alen, o_gets, o_zld, o_zlen, o_cpy, o_call, o_callV, o_ireti, o_iretz, o_lret, o_vret, jg, js, jkp, jkill, jsp, jcs, jfw, jov, Value.category, Option.toList_some, Option.toList_none, List.nil_append, List.cons_append, List.append_nil, Nat.reduceAdd, true_and, and_true, jb0, jb01, jb1, jem, true_or, or_true, Classical.not_not, forall_const, List.length_cons, List.length_nil, Nat.reduceLeDiff, Nat.zero_le, Nat.reduceLT, and_self, not_true_eq_false, not_false_eq_true, false_imp_iff, true_imp_iff, implies_true, and_false, false_and, or_false, false_or, hM, km_37_0 hM, km_37_1 hM, km_37_2 hM, km_37_3 hM, km_37_4 hM, km_37_5 hM, km_37_6 hM, km_37_7 hM, km_37_8 hM, km_37_9 hM, km_37_10 hM, km_37_11 hM, km_37_12 hM, km_37_13 hM, km_37_14 hM, km_37_15 hM, km_37_16 hM, km_37_17 hM, km_37_18 hM, km_37_19 hM, km_37_20 hM, km_37_21 hM, km_37_22 hM, km_37_23 hM, km_37_24 hM, km_37_25 hM, km_37_26 hM, km_37_27 hM, km_37_28 hM, km_37_29 hM, km_37_30 hM, km_37_31 hM, km_37_32 hM, kmo_37 hM, kma_38 hM, kma_39 hM, kma_40 hM, kma_41 hM, kma_42 hM, kma_43 hM, kma_44 hM, kma_45 hM, kma_46 hM, kma_47 hM, kma_48 hM, kma_49 hM, kma_50 hM, kma_52 hM, kma_53 hM, kma_54 hM, kma_55 hM, kma_56 hM, kma_51 hM, T_X7_isSheet, T_X7_in, c1, c2, c3]
        exact hT0
    · have hT0 := hT0 (fun z => c2 z.2.1)
      refine H0 80 _ _ _ _ _ _ ?_
      simp only [sg_X7_sheet_0, sg_X7_sheet_22, sg_X7_sheet_24, sg_X7_sheet_31, sg_X7_sheet_48, sg_X7_sheet_74, cd_X7_sheet, jwp, o_ic, o_lc, o_iload, o_lload, o_aload, o_istore, o_lstore, o_astore, o_iinc, o_pop, o_dup, o_dup2, o_iadd, o_isub, o_imul, o_iand, o_ior, o_ishl, o_ladd, o_lmul, o_land, o_lor, o_idiv, o_irem, o_ineg, o_i2l, o_l2i, o_i2b, o_i2s, o_lushr, o_lshr, o_lshl, o_lcmp, o_ifeq, o_ifne, o_iflt, o_ifge, o_ifgt, o_ifle, o_iceq, o_icne, o_iclt, o_icge, o_icgt, o_icle, o_goto, o_tsw, jsw, o_lsw, jlk, o_getf, o_putf, o_putz, o_iald, o_zald, o_iast, o_zast, o_aald, o_alen, o_gets, o_zld, o_zlen, o_cpy, o_call, o_callV, o_ireti, o_iretz, o_lret, o_vret, jg, js, jkp, jkill, jsp, jcs, jfw, jov, Value.category, Option.toList_some, Option.toList_none, List.nil_append, List.cons_append, List.append_nil, Nat.reduceAdd, true_and, and_true, jb0, jb01, jb1, jem, true_or, or_true, Classical.not_not, forall_const, List.length_cons, List.length_nil, Nat.reduceLeDiff, Nat.zero_le, Nat.reduceLT, and_self, not_true_eq_false, not_false_eq_true, false_imp_iff, true_imp_iff, implies_true, and_false, false_and, or_false, false_or, hM, km_37_0 hM, km_37_1 hM, km_37_2 hM, km_37_3 hM, km_37_4 hM, km_37_5 hM, km_37_6 hM, km_37_7 hM, km_37_8 hM, km_37_9 hM, km_37_10 hM, km_37_11 hM, km_37_12 hM, km_37_13 hM, km_37_14 hM, km_37_15 hM, km_37_16 hM, km_37_17 hM, km_37_18 hM, km_37_19 hM, km_37_20 hM, km_37_21 hM, km_37_22 hM, km_37_23 hM, km_37_24 hM, km_37_25 hM, km_37_26 hM, km_37_27 hM, km_37_28 hM, km_37_29 hM, km_37_30 hM, km_37_31 hM, km_37_32 hM, kmo_37 hM, kma_38 hM, kma_39 hM, kma_40 hM, kma_41 hM, kma_42 hM, kma_43 hM, kma_44 hM, kma_45 hM, kma_46 hM, kma_47 hM, kma_48 hM, kma_49 hM, kma_50 hM, kma_52 hM, kma_53 hM, kma_54 hM, kma_55 hM, kma_56 hM, kma_51 hM, T_X7_isSheet, T_X7_in, c1, c2]
      exact hT0
  · have hT0 := hT0 (fun z => c1 z.1)
    refine H0 80 _ _ _ _ _ _ ?_
    simp only [sg_X7_sheet_0, sg_X7_sheet_22, sg_X7_sheet_24, sg_X7_sheet_31, sg_X7_sheet_48, sg_X7_sheet_74, cd_X7_sheet, jwp, o_ic, o_lc, o_iload, o_lload, o_aload, o_istore, o_lstore, o_astore, o_iinc, o_pop, o_dup, o_dup2, o_iadd, o_isub, o_imul, o_iand, o_ior, o_ishl, o_ladd, o_lmul, o_land, o_lor, o_idiv, o_irem, o_ineg, o_i2l, o_l2i, o_i2b, o_i2s, o_lushr, o_lshr, o_lshl, o_lcmp, o_ifeq, o_ifne, o_iflt, o_ifge, o_ifgt, o_ifle, o_iceq, o_icne, o_iclt, o_icge, o_icgt, o_icle, o_goto, o_tsw, jsw, o_lsw, jlk, o_getf, o_putf, o_putz, o_iald, o_zald, o_iast, o_zast, o_aald, o_alen, o_gets, o_zld, o_zlen, o_cpy, o_call, o_callV, o_ireti, o_iretz, o_lret, o_vret, jg, js, jkp, jkill, jsp, jcs, jfw, jov, Value.category, Option.toList_some, Option.toList_none, List.nil_append, List.cons_append, List.append_nil, Nat.reduceAdd, true_and, and_true, jb0, jb01, jb1, jem, true_or, or_true, Classical.not_not, forall_const, List.length_cons, List.length_nil, Nat.reduceLeDiff, Nat.zero_le, Nat.reduceLT, and_self, not_true_eq_false, not_false_eq_true, false_imp_iff, true_imp_iff, implies_true, and_false, false_and, or_false, false_or, hM, km_37_0 hM, km_37_1 hM, km_37_2 hM, km_37_3 hM, km_37_4 hM, km_37_5 hM, km_37_6 hM, km_37_7 hM, km_37_8 hM, km_37_9 hM, km_37_10 hM, km_37_11 hM, km_37_12 hM, km_37_13 hM, km_37_14 hM, km_37_15 hM, km_37_16 hM, km_37_17 hM, km_37_18 hM, km_37_19 hM, km_37_20 hM, km_37_21 hM, km_37_22 hM, km_37_23 hM, km_37_24 hM, km_37_25 hM, km_37_26 hM, km_37_27 hM, km_37_28 hM, km_37_29 hM, km_37_30 hM, km_37_31 hM, km_37_32 hM, kmo_37 hM, kma_38 hM, kma_39 hM, kma_40 hM, kma_41 hM, kma_42 hM, kma_43 hM, kma_44 hM, kma_45 hM, kma_46 hM, kma_47 hM, kma_48 hM, kma_49 hM, kma_50 hM, kma_52 hM, kma_53 hM, kma_54 hM, kma_55 hM, kma_56 hM, kma_51 hM, T_X7_isSheet, T_X7_in, c1]
    exact hT0
theorem m_X7_sheet (l : Launch) : jHolds vwCl l yX7_sheet wsX7_sheet 2 42 0 0 T_X7_sheet := by
  refine m_X7_sheet_of l (fun G Q vs K h H0 H48 hT => ?_)
  unfold T_X7_sheet at hT
  split at hT
  · obtain ⟨rfl, hT⟩ := hT
    exact ⟨Nat.le_of_ble_eq_true rfl, v_X7_sheet hT H0 H48⟩
  · exact hT.elim
