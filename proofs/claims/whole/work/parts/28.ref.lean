/-! ===== what changed, in the reference ===== -/
/-! X7_differ -/
def T_X7_differ : jT := fun vs K h Q => match vs with
  | [.ref r0] => r0 = 37 ∧ (jXM K ∧ (h 37 19 = 0 → Q (some (.int (-2))) K h) ∧ (¬ h 37 19 = 0 → Q (some (.int (nI (jcnt (fun k => ¬ h 38 k = h 52 k) 57600)))) K h))
  | _ => False
def sg_X7_differ_0 : jS := [(o_aload 0, 1), (o_getf 7 19, 3), (o_ifne 10, 3), (o_ic (-2), 2), (o_ireti, 1)]
def sg_X7_differ_10 : jS := [(o_ic (0), 1), (o_istore 1, 1), (o_ic (0), 1), (o_istore 2, 1)]
def sg_X7_differ_14 : jS := [(o_iload 2, 1), (o_ic (57600), 2), (o_icge 49, 3), (o_iload 1, 1), (o_aload 0, 1), (o_getf 7 2, 3), (o_iload 2, 1), (o_iald, 1), (o_aload 0, 1), (o_getf 7 23, 3), (o_iload 2, 1), (o_iald, 1), (o_iceq 40, 3), (o_ic (1), 1), (o_goto 41, 3)]
def sg_X7_differ_40 : jS := [(o_ic (0), 1)]
def sg_X7_differ_41 : jS := [(o_iadd, 1), (o_istore 1, 1)]
def sg_X7_differ_43 : jS := [(o_iinc 2 (1), 3), (o_goto 14, 3)]
def sg_X7_differ_49 : jS := [(o_iload 1, 1), (o_ireti, 1)]
def cd_X7_differ : Nat → jS := fun t => match t with
  | 10 => sg_X7_differ_10
  | 40 => sg_X7_differ_40
  | 49 => sg_X7_differ_49
  | _ => []
theorem wl_X7_differ_14 : Cond.fieldLink RX7 14 (TX7 2).1 (TX7 2).2.1 (TX7 2).2.2.1 ∈ wsX7_differ := by decide +kernel
theorem wl_X7_differ_58 : Cond.fieldLink RX7 58 (TX7 23).1 (TX7 23).2.1 (TX7 23).2.2.1 ∈ wsX7_differ := by decide +kernel
theorem wl_X7_differ_97 : Cond.fieldLink RX7 97 (TX7 19).1 (TX7 19).2.1 (TX7 19).2.2.1 ∈ wsX7_differ := by decide +kernel
theorem wi_X7_differ_X7 : ∀ w ∈ u_ws RX7 TX7 33, w ∈ wsX7_differ := by decide +kernel
def E_X7_differ (Γ : jΓ) (Q : jPost) : Prop := Γ.2.2.2.2.2.2.2.2.2.2.1 = 3 ∧ Γ.2.2.2.2.2.2.2.2.2.2.2.1 = vwCl ∧ jC Γ cX7_differ RX7 "differ" (some .int) wsX7_differ 0 0 0 0 ∧ jR Γ Q 0 0
theorem oo_X7_differ_0 {Γ : jΓ} {Q : jPost} (E : E_X7_differ Γ Q) : jSA Γ Q 0 (o_aload 0) 1 := so_aload_n E.2.2.1 rfl dX7_differ_0
theorem oo_X7_differ_1 {Γ : jΓ} {Q : jPost} (E : E_X7_differ Γ Q) : jSA Γ Q 1 (o_getf 7 19) 3 := so_getf (ci := 7) E.2.2.1 wi_X7_differ_X7 (by rw [E.2.1]; rfl) 19 (by decide) wl_X7_differ_97 dX7_differ_1
theorem oo_X7_differ_4 {Γ : jΓ} {Q : jPost} (E : E_X7_differ Γ Q) : jSA Γ Q 4 (o_ifne 10) 3 := so_ifne E.2.2.1 (by decide) dX7_differ_4
theorem oo_X7_differ_7 {Γ : jΓ} {Q : jPost} (E : E_X7_differ Γ Q) : jSA Γ Q 7 (o_ic (-2)) 2 := so_bipush E.2.2.1 rfl dX7_differ_7
theorem oo_X7_differ_9 {Γ : jΓ} {Q : jPost} (E : E_X7_differ Γ Q) : jSA Γ Q 9 (o_ireti) 1 := so_ireti E.2.2.1 E.2.2.2 dX7_differ_9
theorem oo_X7_differ_10 {Γ : jΓ} {Q : jPost} (E : E_X7_differ Γ Q) : jSA Γ Q 10 (o_ic (0)) 1 := so_iconst E.2.2.1 rfl dX7_differ_10
theorem oo_X7_differ_11 {Γ : jΓ} {Q : jPost} (E : E_X7_differ Γ Q) : jSA Γ Q 11 (o_istore 1) 1 := so_istore_n E.2.2.1 rfl (by rw [E.1]; decide) dX7_differ_11
theorem oo_X7_differ_12 {Γ : jΓ} {Q : jPost} (E : E_X7_differ Γ Q) : jSA Γ Q 12 (o_ic (0)) 1 := so_iconst E.2.2.1 rfl dX7_differ_12
theorem oo_X7_differ_13 {Γ : jΓ} {Q : jPost} (E : E_X7_differ Γ Q) : jSA Γ Q 13 (o_istore 2) 1 := so_istore_n E.2.2.1 rfl (by rw [E.1]; decide) dX7_differ_13
theorem oo_X7_differ_14 {Γ : jΓ} {Q : jPost} (E : E_X7_differ Γ Q) : jSA Γ Q 14 (o_iload 2) 1 := so_iload_n E.2.2.1 rfl dX7_differ_14
theorem oo_X7_differ_15 {Γ : jΓ} {Q : jPost} (E : E_X7_differ Γ Q) : jSA Γ Q 15 (o_ic (57600)) 2 := so_ldc E.2.2.1 (by decide +kernel) dX7_differ_15
theorem oo_X7_differ_17 {Γ : jΓ} {Q : jPost} (E : E_X7_differ Γ Q) : jSA Γ Q 17 (o_icge 49) 3 := so_icge E.2.2.1 (by decide) dX7_differ_17
theorem oo_X7_differ_20 {Γ : jΓ} {Q : jPost} (E : E_X7_differ Γ Q) : jSA Γ Q 20 (o_iload 1) 1 := so_iload_n E.2.2.1 rfl dX7_differ_20
theorem oo_X7_differ_21 {Γ : jΓ} {Q : jPost} (E : E_X7_differ Γ Q) : jSA Γ Q 21 (o_aload 0) 1 := so_aload_n E.2.2.1 rfl dX7_differ_21
theorem oo_X7_differ_22 {Γ : jΓ} {Q : jPost} (E : E_X7_differ Γ Q) : jSA Γ Q 22 (o_getf 7 2) 3 := so_getf (ci := 7) E.2.2.1 wi_X7_differ_X7 (by rw [E.2.1]; rfl) 2 (by decide) wl_X7_differ_14 dX7_differ_22
theorem oo_X7_differ_25 {Γ : jΓ} {Q : jPost} (E : E_X7_differ Γ Q) : jSA Γ Q 25 (o_iload 2) 1 := so_iload_n E.2.2.1 rfl dX7_differ_25
theorem oo_X7_differ_26 {Γ : jΓ} {Q : jPost} (E : E_X7_differ Γ Q) : jSA Γ Q 26 (o_iald) 1 := so_iald E.2.2.1 dX7_differ_26
theorem oo_X7_differ_27 {Γ : jΓ} {Q : jPost} (E : E_X7_differ Γ Q) : jSA Γ Q 27 (o_aload 0) 1 := so_aload_n E.2.2.1 rfl dX7_differ_27
theorem oo_X7_differ_28 {Γ : jΓ} {Q : jPost} (E : E_X7_differ Γ Q) : jSA Γ Q 28 (o_getf 7 23) 3 := so_getf (ci := 7) E.2.2.1 wi_X7_differ_X7 (by rw [E.2.1]; rfl) 23 (by decide) wl_X7_differ_58 dX7_differ_28
theorem oo_X7_differ_31 {Γ : jΓ} {Q : jPost} (E : E_X7_differ Γ Q) : jSA Γ Q 31 (o_iload 2) 1 := so_iload_n E.2.2.1 rfl dX7_differ_31
theorem oo_X7_differ_32 {Γ : jΓ} {Q : jPost} (E : E_X7_differ Γ Q) : jSA Γ Q 32 (o_iald) 1 := so_iald E.2.2.1 dX7_differ_32
theorem oo_X7_differ_33 {Γ : jΓ} {Q : jPost} (E : E_X7_differ Γ Q) : jSA Γ Q 33 (o_iceq 40) 3 := so_iceq E.2.2.1 (by decide) dX7_differ_33
theorem oo_X7_differ_36 {Γ : jΓ} {Q : jPost} (E : E_X7_differ Γ Q) : jSA Γ Q 36 (o_ic (1)) 1 := so_iconst E.2.2.1 rfl dX7_differ_36
theorem oo_X7_differ_37 {Γ : jΓ} {Q : jPost} (E : E_X7_differ Γ Q) : jSA Γ Q 37 (o_goto 41) 3 := so_goto E.2.2.1 (by decide) dX7_differ_37
theorem oo_X7_differ_40 {Γ : jΓ} {Q : jPost} (E : E_X7_differ Γ Q) : jSA Γ Q 40 (o_ic (0)) 1 := so_iconst E.2.2.1 rfl dX7_differ_40
theorem oo_X7_differ_41 {Γ : jΓ} {Q : jPost} (E : E_X7_differ Γ Q) : jSA Γ Q 41 (o_iadd) 1 := so_iadd E.2.2.1 dX7_differ_41
theorem oo_X7_differ_42 {Γ : jΓ} {Q : jPost} (E : E_X7_differ Γ Q) : jSA Γ Q 42 (o_istore 1) 1 := so_istore_n E.2.2.1 rfl (by rw [E.1]; decide) dX7_differ_42
theorem oo_X7_differ_43 {Γ : jΓ} {Q : jPost} (E : E_X7_differ Γ Q) : jSA Γ Q 43 (o_iinc 2 (1)) 3 := so_iinc E.2.2.1 rfl (by rw [E.1]; decide) dX7_differ_43
theorem oo_X7_differ_46 {Γ : jΓ} {Q : jPost} (E : E_X7_differ Γ Q) : jSA Γ Q 46 (o_goto 14) 3 := so_goto E.2.2.1 (by decide) dX7_differ_46
theorem oo_X7_differ_49 {Γ : jΓ} {Q : jPost} (E : E_X7_differ Γ Q) : jSA Γ Q 49 (o_iload 1) 1 := so_iload_n E.2.2.1 rfl dX7_differ_49
theorem oo_X7_differ_50 {Γ : jΓ} {Q : jPost} (E : E_X7_differ Γ Q) : jSA Γ Q 50 (o_ireti) 1 := so_ireti E.2.2.1 E.2.2.2 dX7_differ_50
theorem ok_X7_differ_0 {Γ : jΓ} {Q : jPost} (E : E_X7_differ Γ Q) : jSS Γ Q 0 sg_X7_differ_0 := ⟨oo_X7_differ_0 E, oo_X7_differ_1 E, oo_X7_differ_4 E, oo_X7_differ_7 E, oo_X7_differ_9 E, trivial⟩
theorem ok_X7_differ_10 {Γ : jΓ} {Q : jPost} (E : E_X7_differ Γ Q) : jSS Γ Q 10 sg_X7_differ_10 := ⟨oo_X7_differ_10 E, oo_X7_differ_11 E, oo_X7_differ_12 E, oo_X7_differ_13 E, trivial⟩
theorem ok_X7_differ_14 {Γ : jΓ} {Q : jPost} (E : E_X7_differ Γ Q) : jSS Γ Q 14 sg_X7_differ_14 := ⟨oo_X7_differ_14 E, oo_X7_differ_15 E, oo_X7_differ_17 E, oo_X7_differ_20 E, oo_X7_differ_21 E, oo_X7_differ_22 E, oo_X7_differ_25 E, oo_X7_differ_26 E, oo_X7_differ_27 E, oo_X7_differ_28 E, oo_X7_differ_31 E, oo_X7_differ_32 E, oo_X7_differ_33 E, oo_X7_differ_36 E, oo_X7_differ_37 E, trivial⟩
theorem ok_X7_differ_40 {Γ : jΓ} {Q : jPost} (E : E_X7_differ Γ Q) : jSS Γ Q 40 sg_X7_differ_40 := ⟨oo_X7_differ_40 E, trivial⟩
theorem ok_X7_differ_41 {Γ : jΓ} {Q : jPost} (E : E_X7_differ Γ Q) : jSS Γ Q 41 sg_X7_differ_41 := ⟨oo_X7_differ_41 E, oo_X7_differ_42 E, trivial⟩
theorem ok_X7_differ_43 {Γ : jΓ} {Q : jPost} (E : E_X7_differ Γ Q) : jSS Γ Q 43 sg_X7_differ_43 := ⟨oo_X7_differ_43 E, oo_X7_differ_46 E, trivial⟩
theorem ok_X7_differ_49 {Γ : jΓ} {Q : jPost} (E : E_X7_differ Γ Q) : jSS Γ Q 49 sg_X7_differ_49 := ⟨oo_X7_differ_49 E, oo_X7_differ_50 E, trivial⟩
theorem okc_X7_differ {Γ : jΓ} {Q : jPost} (E : E_X7_differ Γ Q) (t : Nat) : jSS Γ Q t (cd_X7_differ t) := by
  unfold cd_X7_differ
  split
  · exact ok_X7_differ_10 E
  · exact ok_X7_differ_40 E
  · exact ok_X7_differ_49 E
  · trivial
theorem m_X7_differ_of (l : Launch) (hv : ∀ (G : jGt) (Q : jPost) (vs : List Value) (K : List jK) (h : jM), jHd cd_X7_differ G Q sg_X7_differ_0 0 → jHd cd_X7_differ G Q sg_X7_differ_14 14 → jHd cd_X7_differ G Q sg_X7_differ_41 41 → jHd cd_X7_differ G Q sg_X7_differ_43 43 → T_X7_differ vs K h Q → (lg_sl vs).length ≤ 3 ∧ G 0 (jinit vs 3) [] K h 0 0) : jHolds vwCl l yX7_differ wsX7_differ 0 0 0 0 T_X7_differ := by
  refine jMet (cc := cX7_differ) (maxL := 3) (rt := (some .int)) (by decide +kernel) rfl (fun Γ Q vs K h hl hn hcl C hR hT => hv (jG Γ) Q vs K h ?_ ?_ ?_ ?_ hT)
  · exact fun n L st K h ce sl => jwp_ok (okc_X7_differ ⟨hn, hcl, C, hR⟩) n sg_X7_differ_0 0 (ok_X7_differ_0 ⟨hn, hcl, C, hR⟩) L st K h ce sl
  · exact fun n L st K h ce sl => jwp_ok (okc_X7_differ ⟨hn, hcl, C, hR⟩) n sg_X7_differ_14 14 (ok_X7_differ_14 ⟨hn, hcl, C, hR⟩) L st K h ce sl
  · exact fun n L st K h ce sl => jwp_ok (okc_X7_differ ⟨hn, hcl, C, hR⟩) n sg_X7_differ_41 41 (ok_X7_differ_41 ⟨hn, hcl, C, hR⟩) L st K h ce sl
  · exact fun n L st K h ce sl => jwp_ok (okc_X7_differ ⟨hn, hcl, C, hR⟩) n sg_X7_differ_43 43 (ok_X7_differ_43 ⟨hn, hcl, C, hR⟩) L st K h ce sl
set_option maxHeartbeats 4000000 in
set_option maxRecDepth 100000 in
theorem v_X7_differ {G : jGt} {Q : jPost} {K : List jK} {h : jM}  (hT : jXM K ∧ (h 37 19 = 0 → Q (some (.int (-2))) K h) ∧ (¬ h 37 19 = 0 → Q (some (.int (nI (jcnt (fun k => ¬ h 38 k = h 52 k) 57600)))) K h)) (H0 : jHd cd_X7_differ G Q sg_X7_differ_0 0) (H14 : jHd cd_X7_differ G Q sg_X7_differ_14 14) (H41 : jHd cd_X7_differ G Q sg_X7_differ_41 41) (H43 : jHd cd_X7_differ G Q sg_X7_differ_43 43) : G 0 [some (.ref 37), none, none] [] K h 0 0 := by
  obtain ⟨hM, hT0, hT1⟩ := hT
  have h43 : ∀ (a k : Nat), G 14 [some (.ref 37), some (.int (nI a)), some (.int (nI k + 1))] [] K h 0 0 → G 43 [some (.ref 37), some (.int (nI a)), some (.int (nI k))] [] K h 0 0 := by
    intro a k hG
    refine H43 60 _ _ _ _ _ _ ?_
    simp only [sg_X7_differ_0, sg_X7_differ_10, sg_X7_differ_14, sg_X7_differ_40, sg_X7_differ_41, sg_X7_differ_43, sg_X7_differ_49, cd_X7_differ, jwp, o_ic, o_lc, o_iload, o_lload, o_aload, o_istore, o_lstore, o_astore, o_iinc, o_pop, o_dup, o_dup2, o_iadd, o_isub, o_imul, o_iand, o_ior, o_ishl, o_ladd, o_lmul, o_land, o_lor, o_idiv, o_irem, o_ineg, o_i2l, o_l2i, o_i2b, o_i2s, o_lushr, o_lshr, o_lshl, o_lcmp, o_ifeq, o_ifne, o_iflt, o_ifge, o_ifgt, o_ifle, o_iceq, o_icne, o_iclt, o_icge, o_icgt, o_icle, o_goto, o_tsw, jsw, o_lsw, jlk, o_getf, o_putf, o_putz, o_iald, o_zald, o_iast, o_zast, o_aald, o_alen, o_gets, o_zld, o_zlen, o_cpy, o_call, o_callV, o_ireti, o_iretz, o_lret, o_vret, jg, js, jkp, jkill, jsp, jcs, jfw, jov, Value.category, Option.toList_some, Option.toList_none, List.nil_append, List.cons_append, List.append_nil, Nat.reduceAdd, true_and, and_true, jb0, jb01, jb1, jem, true_or, or_true, Classical.not_not, forall_const, List.length_cons, List.length_nil, Nat.reduceLeDiff, Nat.zero_le, Nat.reduceLT, hM, km_37_0 hM, km_37_1 hM, km_37_2 hM, km_37_3 hM, km_37_4 hM, km_37_5 hM, km_37_6 hM, km_37_7 hM, km_37_8 hM, km_37_9 hM, km_37_10 hM, km_37_11 hM, km_37_12 hM, km_37_13 hM, km_37_14 hM, km_37_15 hM, km_37_16 hM, km_37_17 hM, km_37_18 hM, km_37_19 hM, km_37_20 hM, km_37_21 hM, km_37_22 hM, km_37_23 hM, km_37_24 hM, km_37_25 hM, km_37_26 hM, km_37_27 hM, km_37_28 hM, km_37_29 hM, km_37_30 hM, km_37_31 hM, km_37_32 hM, kmo_37 hM, kma_38 hM, kma_39 hM, kma_40 hM, kma_41 hM, kma_42 hM, kma_43 hM, kma_44 hM, kma_45 hM, kma_46 hM, kma_47 hM, kma_48 hM, kma_49 hM, kma_50 hM, kma_52 hM, kma_53 hM, kma_54 hM, kma_55 hM, kma_56 hM, kma_51 hM]
    exact hG
  have h41 : ∀ (a k : Nat) (b : Int32), G 43 [some (.ref 37), some (.int (nI a + b)), some (.int (nI k))] [] K h 0 0 → G 41 [some (.ref 37), some (.int (nI a)), some (.int (nI k))] [.int b, .int (nI a)] K h 0 0 := by
    intro a k b hG
    refine H41 60 _ _ _ _ _ _ ?_
    simp only [sg_X7_differ_0, sg_X7_differ_10, sg_X7_differ_14, sg_X7_differ_40, sg_X7_differ_41, sg_X7_differ_43, sg_X7_differ_49, cd_X7_differ, jwp, o_ic, o_lc, o_iload, o_lload, o_aload, o_istore, o_lstore, o_astore, o_iinc, o_pop, o_dup, o_dup2, o_iadd, o_isub, o_imul, o_iand, o_ior, o_ishl, o_ladd, o_lmul, o_land, o_lor, o_idiv, o_irem, o_ineg, o_i2l, o_l2i, o_i2b, o_i2s, o_lushr, o_lshr, o_lshl, o_lcmp, o_ifeq, o_ifne, o_iflt, o_ifge, o_ifgt, o_ifle, o_iceq, o_icne, o_iclt, o_icge, o_icgt, o_icle, o_goto, o_tsw, jsw, o_lsw, jlk, o_getf, o_putf, o_putz, o_iald, o_zald, o_iast, o_zast, o_aald, o_alen, o_gets, o_zld, o_zlen, o_cpy, o_call, o_callV, o_ireti, o_iretz, o_lret, o_vret, jg, js, jkp, jkill, jsp, jcs, jfw, jov, Value.category, Option.toList_some, Option.toList_none, List.nil_append, List.cons_append, List.append_nil, Nat.reduceAdd, true_and, and_true, jb0, jb01, jb1, jem, true_or, or_true, Classical.not_not, forall_const, List.length_cons, List.length_nil, Nat.reduceLeDiff, Nat.zero_le, Nat.reduceLT, hM, km_37_0 hM, km_37_1 hM, km_37_2 hM, km_37_3 hM, km_37_4 hM, km_37_5 hM, km_37_6 hM, km_37_7 hM, km_37_8 hM, km_37_9 hM, km_37_10 hM, km_37_11 hM, km_37_12 hM, km_37_13 hM, km_37_14 hM, km_37_15 hM, km_37_16 hM, km_37_17 hM, km_37_18 hM, km_37_19 hM, km_37_20 hM, km_37_21 hM, km_37_22 hM, km_37_23 hM, km_37_24 hM, km_37_25 hM, km_37_26 hM, km_37_27 hM, km_37_28 hM, km_37_29 hM, km_37_30 hM, km_37_31 hM, km_37_32 hM, kmo_37 hM, kma_38 hM, kma_39 hM, kma_40 hM, kma_41 hM, kma_42 hM, kma_43 hM, kma_44 hM, kma_45 hM, kma_46 hM, kma_47 hM, kma_48 hM, kma_49 hM, kma_50 hM, kma_52 hM, kma_53 hM, kma_54 hM, kma_55 hM, kma_56 hM, kma_51 hM]
    exact hG
  have loop : ¬ h 37 19 = 0 → ∀ m k, k + m = 57600 → G 14 [some (.ref 37), some (.int (nI (jcnt (fun k => ¬ h 38 k = h 52 k) k))), some (.int (nI k))] [] K h 0 0 := by
    intro hz m
    have hT1 := hT1 hz
    induction m with
    | zero =>
      intro k hk
      have ek : k = 57600 := by omega
      subst ek
      have hle : (57600 : Int32) ≤ nI 57600 := by decide
      generalize nI 57600 = z at hle ⊢
      refine H14 60 _ _ _ _ _ _ ?_
      simp only [sg_X7_differ_0, sg_X7_differ_10, sg_X7_differ_14, sg_X7_differ_40, sg_X7_differ_41, sg_X7_differ_43, sg_X7_differ_49, cd_X7_differ, jwp, o_ic, o_lc, o_iload, o_lload, o_aload, o_istore, o_lstore, o_astore, o_iinc, o_pop, o_dup, o_dup2, o_iadd, o_isub, o_imul, o_iand, o_ior, o_ishl, o_ladd, o_lmul, o_land, o_lor, o_idiv, o_irem, o_ineg, o_i2l, o_l2i, o_i2b, o_i2s, o_lushr, o_lshr, o_lshl, o_lcmp, o_ifeq, o_ifne, o_iflt, o_ifge, o_ifgt, o_ifle, o_iceq, o_icne, o_iclt, o_icge, o_icgt, o_icle, o_goto, o_tsw, jsw, o_lsw, jlk, o_getf, o_putf, o_putz, o_iald, o_zald, o_iast, o_zast, o_aald, o_alen, o_gets, o_zld, o_zlen, o_cpy, o_call, o_callV, o_ireti, o_iretz, o_lret, o_vret, jg, js, jkp, jkill, jsp, jcs, jfw, jov, Value.category, Option.toList_some, Option.toList_none, List.nil_append, List.cons_append, List.append_nil, Nat.reduceAdd, true_and, and_true, jb0, jb01, jb1, jem, true_or, or_true, Classical.not_not, forall_const, List.length_cons, List.length_nil, Nat.reduceLeDiff, Nat.zero_le, Nat.reduceLT, and_self, not_true_eq_false, not_false_eq_true, false_imp_iff, true_imp_iff, implies_true, and_false, false_and, or_false, false_or, hM, km_37_0 hM, km_37_1 hM, km_37_2 hM, km_37_3 hM, km_37_4 hM, km_37_5 hM, km_37_6 hM, km_37_7 hM, km_37_8 hM, km_37_9 hM, km_37_10 hM, km_37_11 hM, km_37_12 hM, km_37_13 hM, km_37_14 hM, km_37_15 hM, km_37_16 hM, km_37_17 hM, km_37_18 hM, km_37_19 hM, km_37_20 hM, km_37_21 hM, km_37_22 hM, km_37_23 hM, km_37_24 hM, km_37_25 hM, km_37_26 hM, km_37_27 hM, km_37_28 hM, km_37_29 hM, km_37_30 hM, km_37_31 hM, km_37_32 hM, kmo_37 hM, kma_38 hM, kma_39 hM, kma_40 hM, kma_41 hM, kma_42 hM, kma_43 hM, kma_44 hM, kma_45 hM, kma_46 hM, kma_47 hM, kma_48 hM, kma_49 hM, kma_50 hM, kma_52 hM, kma_53 hM, kma_54 hM, kma_55 hM, kma_56 hM, kma_51 hM, hle]
      exact hT1
    | succ m ih =>
      intro k hk
      have h2 := ih (k + 1) (by omega)
      have hlt : ¬ (57600 : Int32) ≤ nI k := fun z => absurd ((nI_leI (a := 57600) (by omega) (by omega)).mp z) (by omega)
      have hvi : vp_in (nI k) 57600 := vp_in_nI (by omega) (by decide)
      have e1 : ¬ h 38 k = h 52 k → jcnt (fun k => ¬ h 38 k = h 52 k) (k + 1) = jcnt (fun k => ¬ h 38 k = h 52 k) k + 1 := fun z => by
        show jcnt _ k + @ite Nat _ (Classical.propDecidable _) 1 0 = _
        rw [if_pos z]
      have e0 : h 38 k = h 52 k → jcnt (fun k => ¬ h 38 k = h 52 k) (k + 1) = jcnt (fun k => ¬ h 38 k = h 52 k) k := fun z => by
        show jcnt _ k + @ite Nat _ (Classical.propDecidable _) 1 0 = _
        rw [if_neg (fun q => q z), Nat.add_zero]
      by_cases c : h 38 k = h 52 k
      · rw [e0 c] at h2
        generalize jcnt (fun k => ¬ h 38 k = h 52 k) k = a at h2 ⊢
        have h9 := h41 a k 0 (by rw [Int32.add_zero]; exact h43 a k (by rw [nI_1]; exact h2))
        refine H14 60 _ _ _ _ _ _ ?_
        simp only [sg_X7_differ_0, sg_X7_differ_10, sg_X7_differ_14, sg_X7_differ_40, sg_X7_differ_41, sg_X7_differ_43, sg_X7_differ_49, cd_X7_differ, jwp, o_ic, o_lc, o_iload, o_lload, o_aload, o_istore, o_lstore, o_astore, o_iinc, o_pop, o_dup, o_dup2, o_iadd, o_isub, o_imul, o_iand, o_ior, o_ishl, o_ladd, o_lmul, o_land, o_lor, o_idiv, o_irem, o_ineg, o_i2l, o_l2i, o_i2b, o_i2s, o_lushr, o_lshr, o_lshl, o_lcmp, o_ifeq, o_ifne, o_iflt, o_ifge, o_ifgt, o_ifle, o_iceq, o_icne, o_iclt, o_icge, o_icgt, o_icle, o_goto, o_tsw, jsw, o_lsw, jlk, o_getf, o_putf, o_putz, o_iald, o_zald, o_iast, o_zast, o_aald, o_alen, o_gets, o_zld, o_zlen, o_cpy, o_call, o_callV, o_ireti, o_iretz, o_lret, o_vret, jg, js, jkp, jkill, jsp, jcs, jfw, jov, Value.category, Option.toList_some, Option.toList_none, List.nil_append, List.cons_append, List.append_nil, Nat.reduceAdd, true_and, and_true, jb0, jb01, jb1, jem, true_or, or_true, Classical.not_not, forall_const, List.length_cons, List.length_nil, Nat.reduceLeDiff, Nat.zero_le, Nat.reduceLT, and_self, not_true_eq_false, not_false_eq_true, false_imp_iff, true_imp_iff, implies_true, and_false, false_and, or_false, false_or, hM, km_37_0 hM, km_37_1 hM, km_37_2 hM, km_37_3 hM, km_37_4 hM, km_37_5 hM, km_37_6 hM, km_37_7 hM, km_37_8 hM, km_37_9 hM, km_37_10 hM, km_37_11 hM, km_37_12 hM, km_37_13 hM, km_37_14 hM, km_37_15 hM, km_37_16 hM, km_37_17 hM, km_37_18 hM, km_37_19 hM, km_37_20 hM, km_37_21 hM, km_37_22 hM, km_37_23 hM, km_37_24 hM, km_37_25 hM, km_37_26 hM, km_37_27 hM, km_37_28 hM, km_37_29 hM, km_37_30 hM, km_37_31 hM, km_37_32 hM, kmo_37 hM, kma_38 hM, kma_39 hM, kma_40 hM, kma_41 hM, kma_42 hM, kma_43 hM, kma_44 hM, kma_45 hM, kma_46 hM, kma_47 hM, kma_48 hM, kma_49 hM, kma_50 hM, kma_52 hM, kma_53 hM, kma_54 hM, kma_55 hM, kma_56 hM, kma_51 hM, hlt, hvi, nI_clamp (show k < 2147483648 by omega), c]
        exact h9
      · rw [e1 c] at h2
        generalize jcnt (fun k => ¬ h 38 k = h 52 k) k = a at h2 ⊢
        have h9 := h41 a k 1 (by rw [nI_1]; exact h43 (a + 1) k (by rw [nI_1]; exact h2))
        refine H14 60 _ _ _ _ _ _ ?_
        simp only [sg_X7_differ_0, sg_X7_differ_10, sg_X7_differ_14, sg_X7_differ_40, sg_X7_differ_41, sg_X7_differ_43, sg_X7_differ_49, cd_X7_differ, jwp, o_ic, o_lc, o_iload, o_lload, o_aload, o_istore, o_lstore, o_astore, o_iinc, o_pop, o_dup, o_dup2, o_iadd, o_isub, o_imul, o_iand, o_ior, o_ishl, o_ladd, o_lmul, o_land, o_lor, o_idiv, o_irem, o_ineg, o_i2l, o_l2i, o_i2b, o_i2s, o_lushr, o_lshr, o_lshl, o_lcmp, o_ifeq, o_ifne, o_iflt, o_ifge, o_ifgt, o_ifle, o_iceq, o_icne, o_iclt, o_icge, o_icgt, o_icle, o_goto, o_tsw, jsw, o_lsw, jlk, o_getf, o_putf, o_putz, o_iald, o_zald, o_iast, o_zast, o_aald, o_alen, o_gets, o_zld, o_zlen, o_cpy, o_call, o_callV, o_ireti, o_iretz, o_lret, o_vret, jg, js, jkp, jkill, jsp, jcs, jfw, jov, Value.category, Option.toList_some, Option.toList_none, List.nil_append, List.cons_append, List.append_nil, Nat.reduceAdd, true_and, and_true, jb0, jb01, jb1, jem, true_or, or_true, Classical.not_not, forall_const, List.length_cons, List.length_nil, Nat.reduceLeDiff, Nat.zero_le, Nat.reduceLT, and_self, not_true_eq_false, not_false_eq_true, false_imp_iff, true_imp_iff, implies_true, and_false, false_and, or_false, false_or, hM, km_37_0 hM, km_37_1 hM, km_37_2 hM, km_37_3 hM, km_37_4 hM, km_37_5 hM, km_37_6 hM, km_37_7 hM, km_37_8 hM, km_37_9 hM, km_37_10 hM, km_37_11 hM, km_37_12 hM, km_37_13 hM, km_37_14 hM, km_37_15 hM, km_37_16 hM, km_37_17 hM, km_37_18 hM, km_37_19 hM, km_37_20 hM, km_37_21 hM, km_37_22 hM, km_37_23 hM, km_37_24 hM, km_37_25 hM, km_37_26 hM, km_37_27 hM, km_37_28 hM, km_37_29 hM, km_37_30 hM, km_37_31 hM, km_37_32 hM, kmo_37 hM, kma_38 hM, kma_39 hM, kma_40 hM, kma_41 hM, kma_42 hM, kma_43 hM, kma_44 hM, kma_45 hM, kma_46 hM, kma_47 hM, kma_48 hM, kma_49 hM, kma_50 hM, kma_52 hM, kma_53 hM, kma_54 hM, kma_55 hM, kma_56 hM, kma_51 hM, hlt, hvi, nI_clamp (show k < 2147483648 by omega), c]
        exact h9
  by_cases c : h 37 19 = 0
  · have hT0 := hT0 c
    refine H0 60 _ _ _ _ _ _ ?_
    simp only [sg_X7_differ_0, sg_X7_differ_10, sg_X7_differ_14, sg_X7_differ_40, sg_X7_differ_41, sg_X7_differ_43, sg_X7_differ_49, cd_X7_differ, jwp, o_ic, o_lc, o_iload, o_lload, o_aload, o_istore, o_lstore, o_astore, o_iinc, o_pop, o_dup, o_dup2, o_iadd, o_isub, o_imul, o_iand, o_ior, o_ishl, o_ladd, o_lmul, o_land, o_lor, o_idiv, o_irem, o_ineg, o_i2l, o_l2i, o_i2b, o_i2s, o_lushr, o_lshr, o_lshl, o_lcmp, o_ifeq, o_ifne, o_iflt, o_ifge, o_ifgt, o_ifle, o_iceq, o_icne, o_iclt, o_icge, o_icgt, o_icle, o_goto, o_tsw, jsw, o_lsw, jlk, o_getf, o_putf, o_putz, o_iald, o_zald, o_iast, o_zast, o_aald, o_alen, o_gets, o_zld, o_zlen, o_cpy, o_call, o_callV, o_ireti, o_iretz, o_lret, o_vret, jg, js, jkp, jkill, jsp, jcs, jfw, jov, Value.category, Option.toList_some, Option.toList_none, List.nil_append, List.cons_append, List.append_nil, Nat.reduceAdd, true_and, and_true, jb0, jb01, jb1, jem, true_or, or_true, Classical.not_not, forall_const, List.length_cons, List.length_nil, Nat.reduceLeDiff, Nat.zero_le, Nat.reduceLT, and_self, not_true_eq_false, not_false_eq_true, false_imp_iff, true_imp_iff, implies_true, and_false, false_and, or_false, false_or, hM, km_37_0 hM, km_37_1 hM, km_37_2 hM, km_37_3 hM, km_37_4 hM, km_37_5 hM, km_37_6 hM, km_37_7 hM, km_37_8 hM, km_37_9 hM, km_37_10 hM, km_37_11 hM, km_37_12 hM, km_37_13 hM, km_37_14 hM, km_37_15 hM, km_37_16 hM, km_37_17 hM, km_37_18 hM, km_37_19 hM, km_37_20 hM, km_37_21 hM, km_37_22 hM, km_37_23 hM, km_37_24 hM, km_37_25 hM, km_37_26 hM, km_37_27 hM, km_37_28 hM, km_37_29 hM, km_37_30 hM, km_37_31 hM, km_37_32 hM, kmo_37 hM, kma_38 hM, kma_39 hM, kma_40 hM, kma_41 hM, kma_42 hM, kma_43 hM, kma_44 hM, kma_45 hM, kma_46 hM, kma_47 hM, kma_48 hM, kma_49 hM, kma_50 hM, kma_52 hM, kma_53 hM, kma_54 hM, kma_55 hM, kma_56 hM, kma_51 hM, c]
    exact hT0
  · have h9 := loop c 57600 0 (by omega)
    refine H0 60 _ _ _ _ _ _ ?_
    simp only [sg_X7_differ_0, sg_X7_differ_10, sg_X7_differ_14, sg_X7_differ_40, sg_X7_differ_41, sg_X7_differ_43, sg_X7_differ_49, cd_X7_differ, jwp, o_ic, o_lc, o_iload, o_lload, o_aload, o_istore, o_lstore, o_astore, o_iinc, o_pop, o_dup, o_dup2, o_iadd, o_isub, o_imul, o_iand, o_ior, o_ishl, o_ladd, o_lmul, o_land, o_lor, o_idiv, o_irem, o_ineg, o_i2l, o_l2i, o_i2b, o_i2s, o_lushr, o_lshr, o_lshl, o_lcmp, o_ifeq, o_ifne, o_iflt, o_ifge, o_ifgt, o_ifle, o_iceq, o_icne, o_iclt, o_icge, o_icgt, o_icle, o_goto, o_tsw, jsw, o_lsw, jlk, o_getf, o_putf, o_putz, o_iald, o_zald, o_iast, o_zast, o_aald, o_alen, o_gets, o_zld, o_zlen, o_cpy, o_call, o_callV, o_ireti, o_iretz, o_lret, o_vret, jg, js, jkp, jkill, jsp, jcs, jfw, jov, Value.category, Option.toList_some, Option.toList_none, List.nil_append, List.cons_append, List.append_nil, Nat.reduceAdd, true_and, and_true, jb0, jb01, jb1, jem, true_or, or_true, Classical.not_not, forall_const, List.length_cons, List.length_nil, Nat.reduceLeDiff, Nat.zero_le, Nat.reduceLT, and_self, not_true_eq_false, not_false_eq_true, false_imp_iff, true_imp_iff, implies_true, and_false, false_and, or_false, false_or, hM, km_37_0 hM, km_37_1 hM, km_37_2 hM, km_37_3 hM, km_37_4 hM, km_37_5 hM, km_37_6 hM, km_37_7 hM, km_37_8 hM, km_37_9 hM, km_37_10 hM, km_37_11 hM, km_37_12 hM, km_37_13 hM, km_37_14 hM, km_37_15 hM, km_37_16 hM, km_37_17 hM, km_37_18 hM, km_37_19 hM, km_37_20 hM, km_37_21 hM, km_37_22 hM, km_37_23 hM, km_37_24 hM, km_37_25 hM, km_37_26 hM, km_37_27 hM, km_37_28 hM, km_37_29 hM, km_37_30 hM, km_37_31 hM, km_37_32 hM, kmo_37 hM, kma_38 hM, kma_39 hM, kma_40 hM, kma_41 hM, kma_42 hM, kma_43 hM, kma_44 hM, kma_45 hM, kma_46 hM, kma_47 hM, kma_48 hM, kma_49 hM, kma_50 hM, kma_52 hM, kma_53 hM, kma_54 hM, kma_55 hM, kma_56 hM, kma_51 hM, c]
    exact h9
theorem m_X7_differ (l : Launch) : jHolds vwCl l yX7_differ wsX7_differ 0 0 0 0 T_X7_differ := by
  refine m_X7_differ_of l (fun G Q vs K h H0 H14 H41 H43 hT => ?_)
  unfold T_X7_differ at hT
  split at hT
  · obtain ⟨rfl, hT⟩ := hT
    exact ⟨Nat.le_of_ble_eq_true rfl, v_X7_differ hT H0 H14 H41 H43⟩
  · exact hT.elim
