/-! X7_isWithin -/
def T_X7_isWithin : jT := fun vs K h Q => match vs with
  | [.ref r0, .int s, .int f, .int n] => r0 = 37 ∧ (jXM K ∧ (0 ≤ s ∧ s ≤ 3) ∧ Q (some (.int (jb (¬ f < 0 ∧ f.toInt + n.toInt ≤ (h 54 s.toNatClampNeg).toInt)))) K h)
  | _ => False
def sg_X7_isWithin_0 : jS := [(o_iload 2, 1), (o_iflt 24, 3), (o_iload 2, 1), (o_i2l, 1), (o_iload 3, 1), (o_i2l, 1), (o_ladd, 1), (o_aload 0, 1), (o_getf 7 30, 3), (o_iload 1, 1), (o_iald, 1), (o_i2l, 1), (o_lcmp, 1), (o_ifgt 24, 3), (o_ic (1), 1), (o_goto 25, 3)]
def sg_X7_isWithin_24 : jS := [(o_ic (0), 1), (o_iretz, 1)]
def sg_X7_isWithin_25 : jS := [(o_iretz, 1)]
def cd_X7_isWithin : Nat → jS := fun t => match t with
  | 24 => sg_X7_isWithin_24
  | 25 => sg_X7_isWithin_25
  | _ => []
theorem wl_X7_isWithin_64 : Cond.fieldLink RX7 64 (TX7 30).1 (TX7 30).2.1 (TX7 30).2.2.1 ∈ wsX7_isWithin := by decide +kernel
theorem wi_X7_isWithin_X7 : ∀ w ∈ u_ws RX7 TX7 33, w ∈ wsX7_isWithin := by decide +kernel
def E_X7_isWithin (Γ : jΓ) (Q : jPost) : Prop := Γ.2.2.2.2.2.2.2.2.2.2.1 = 4 ∧ Γ.2.2.2.2.2.2.2.2.2.2.2.1 = vwCl ∧ jC Γ cX7_isWithin RX7 "isWithin" (some .boolean) wsX7_isWithin 0 0 0 0 ∧ jR Γ Q 0 0
theorem oo_X7_isWithin_0 {Γ : jΓ} {Q : jPost} (E : E_X7_isWithin Γ Q) : jSA Γ Q 0 (o_iload 2) 1 := so_iload_n E.2.2.1 rfl dX7_isWithin_0
theorem oo_X7_isWithin_1 {Γ : jΓ} {Q : jPost} (E : E_X7_isWithin Γ Q) : jSA Γ Q 1 (o_iflt 24) 3 := so_iflt E.2.2.1 (by decide) dX7_isWithin_1
theorem oo_X7_isWithin_4 {Γ : jΓ} {Q : jPost} (E : E_X7_isWithin Γ Q) : jSA Γ Q 4 (o_iload 2) 1 := so_iload_n E.2.2.1 rfl dX7_isWithin_4
theorem oo_X7_isWithin_5 {Γ : jΓ} {Q : jPost} (E : E_X7_isWithin Γ Q) : jSA Γ Q 5 (o_i2l) 1 := so_i2l E.2.2.1 dX7_isWithin_5
theorem oo_X7_isWithin_6 {Γ : jΓ} {Q : jPost} (E : E_X7_isWithin Γ Q) : jSA Γ Q 6 (o_iload 3) 1 := so_iload_n E.2.2.1 rfl dX7_isWithin_6
theorem oo_X7_isWithin_7 {Γ : jΓ} {Q : jPost} (E : E_X7_isWithin Γ Q) : jSA Γ Q 7 (o_i2l) 1 := so_i2l E.2.2.1 dX7_isWithin_7
theorem oo_X7_isWithin_8 {Γ : jΓ} {Q : jPost} (E : E_X7_isWithin Γ Q) : jSA Γ Q 8 (o_ladd) 1 := so_ladd E.2.2.1 dX7_isWithin_8
theorem oo_X7_isWithin_9 {Γ : jΓ} {Q : jPost} (E : E_X7_isWithin Γ Q) : jSA Γ Q 9 (o_aload 0) 1 := so_aload_n E.2.2.1 rfl dX7_isWithin_9
theorem oo_X7_isWithin_10 {Γ : jΓ} {Q : jPost} (E : E_X7_isWithin Γ Q) : jSA Γ Q 10 (o_getf 7 30) 3 := so_getf (ci := 7) E.2.2.1 wi_X7_isWithin_X7 (by rw [E.2.1]; rfl) 30 (by decide) wl_X7_isWithin_64 dX7_isWithin_10
theorem oo_X7_isWithin_13 {Γ : jΓ} {Q : jPost} (E : E_X7_isWithin Γ Q) : jSA Γ Q 13 (o_iload 1) 1 := so_iload_n E.2.2.1 rfl dX7_isWithin_13
theorem oo_X7_isWithin_14 {Γ : jΓ} {Q : jPost} (E : E_X7_isWithin Γ Q) : jSA Γ Q 14 (o_iald) 1 := so_iald E.2.2.1 dX7_isWithin_14
theorem oo_X7_isWithin_15 {Γ : jΓ} {Q : jPost} (E : E_X7_isWithin Γ Q) : jSA Γ Q 15 (o_i2l) 1 := so_i2l E.2.2.1 dX7_isWithin_15
theorem oo_X7_isWithin_16 {Γ : jΓ} {Q : jPost} (E : E_X7_isWithin Γ Q) : jSA Γ Q 16 (o_lcmp) 1 := so_lcmp E.2.2.1 dX7_isWithin_16
theorem oo_X7_isWithin_17 {Γ : jΓ} {Q : jPost} (E : E_X7_isWithin Γ Q) : jSA Γ Q 17 (o_ifgt 24) 3 := so_ifgt E.2.2.1 (by decide) dX7_isWithin_17
theorem oo_X7_isWithin_20 {Γ : jΓ} {Q : jPost} (E : E_X7_isWithin Γ Q) : jSA Γ Q 20 (o_ic (1)) 1 := so_iconst E.2.2.1 rfl dX7_isWithin_20
theorem oo_X7_isWithin_21 {Γ : jΓ} {Q : jPost} (E : E_X7_isWithin Γ Q) : jSA Γ Q 21 (o_goto 25) 3 := so_goto E.2.2.1 (by decide) dX7_isWithin_21
theorem oo_X7_isWithin_24 {Γ : jΓ} {Q : jPost} (E : E_X7_isWithin Γ Q) : jSA Γ Q 24 (o_ic (0)) 1 := so_iconst E.2.2.1 rfl dX7_isWithin_24
theorem oo_X7_isWithin_25 {Γ : jΓ} {Q : jPost} (E : E_X7_isWithin Γ Q) : jSA Γ Q 25 (o_iretz) 1 := so_iretz E.2.2.1 E.2.2.2 dX7_isWithin_25
theorem ok_X7_isWithin_0 {Γ : jΓ} {Q : jPost} (E : E_X7_isWithin Γ Q) : jSS Γ Q 0 sg_X7_isWithin_0 := ⟨oo_X7_isWithin_0 E, oo_X7_isWithin_1 E, oo_X7_isWithin_4 E, oo_X7_isWithin_5 E, oo_X7_isWithin_6 E, oo_X7_isWithin_7 E, oo_X7_isWithin_8 E, oo_X7_isWithin_9 E, oo_X7_isWithin_10 E, oo_X7_isWithin_13 E, oo_X7_isWithin_14 E, oo_X7_isWithin_15 E, oo_X7_isWithin_16 E, oo_X7_isWithin_17 E, oo_X7_isWithin_20 E, oo_X7_isWithin_21 E, trivial⟩
theorem ok_X7_isWithin_24 {Γ : jΓ} {Q : jPost} (E : E_X7_isWithin Γ Q) : jSS Γ Q 24 sg_X7_isWithin_24 := ⟨oo_X7_isWithin_24 E, oo_X7_isWithin_25 E, trivial⟩
theorem ok_X7_isWithin_25 {Γ : jΓ} {Q : jPost} (E : E_X7_isWithin Γ Q) : jSS Γ Q 25 sg_X7_isWithin_25 := ⟨oo_X7_isWithin_25 E, trivial⟩
theorem okc_X7_isWithin {Γ : jΓ} {Q : jPost} (E : E_X7_isWithin Γ Q) (t : Nat) : jSS Γ Q t (cd_X7_isWithin t) := by
  unfold cd_X7_isWithin
  split
  · exact ok_X7_isWithin_24 E
  · exact ok_X7_isWithin_25 E
  · trivial
theorem m_X7_isWithin_of (l : Launch) (hv : ∀ (G : jGt) (Q : jPost) (vs : List Value) (K : List jK) (h : jM), jHd cd_X7_isWithin G Q sg_X7_isWithin_0 0 → T_X7_isWithin vs K h Q → (lg_sl vs).length ≤ 4 ∧ G 0 (jinit vs 4) [] K h 0 0) : jHolds vwCl l yX7_isWithin wsX7_isWithin 0 0 0 0 T_X7_isWithin := by
  refine jMet (cc := cX7_isWithin) (maxL := 4) (rt := (some .boolean)) (by decide +kernel) rfl (fun Γ Q vs K h hl hn hcl C hR hT => hv (jG Γ) Q vs K h ?_ hT)
  · exact fun n L st K h ce sl => jwp_ok (okc_X7_isWithin ⟨hn, hcl, C, hR⟩) n sg_X7_isWithin_0 0 (ok_X7_isWithin_0 ⟨hn, hcl, C, hR⟩) L st K h ce sl
set_option maxHeartbeats 4000000 in
set_option maxRecDepth 100000 in
theorem v_X7_isWithin {G : jGt} {Q : jPost} {K : List jK} {h : jM} {s : Int32} {f : Int32} {n : Int32} (hT : jXM K ∧ (0 ≤ s ∧ s ≤ 3) ∧ Q (some (.int (jb (¬ f < 0 ∧ f.toInt + n.toInt ≤ (h 54 s.toNatClampNeg).toInt)))) K h) (H0 : jHd cd_X7_isWithin G Q sg_X7_isWithin_0 0) : G 0 [some (.ref 37), some (.int s), some (.int f), some (.int n)] [] K h 0 0 := by
  obtain ⟨hM, c1, hT⟩ := hT
  obtain ⟨j, hj, rfl⟩ := sh_of c1
  have h31 : j < 2147483648 := by omega
  have hv : vp_in (nI j) 4 := vp_in_nI hj (by decide)
  rw [nI_clamp h31] at hT
  by_cases c2 : f < 0
  · rw [jb_neg (fun q => q.1 c2)] at hT
    refine H0 60 _ _ _ _ _ _ ?_
    simp only [sg_X7_isWithin_0, sg_X7_isWithin_24, sg_X7_isWithin_25, cd_X7_isWithin, jwp, o_ic, o_lc, o_iload, o_lload, o_aload, o_istore, o_lstore, o_astore, o_iinc, o_pop, o_dup, o_dup2, o_iadd, o_isub, o_imul, o_iand, o_ior, o_ishl, o_ladd, o_lmul, o_land, o_lor, o_idiv, o_irem, o_ineg, o_i2l, o_l2i, o_i2b, o_i2s, o_lushr, o_lshr, o_lshl, o_lcmp, o_ifeq, o_ifne, o_iflt, o_ifge, o_ifgt, o_ifle, o_iceq, o_icne, o_iclt, o_icge, o_icgt, o_icle, o_goto, o_tsw, jsw, o_lsw, jlk, o_getf, o_putf, o_putz, o_iald, o_zald, o_iast, o_zast, o_aald, o_alen, o_gets, o_zld, o_zlen, o_cpy, o_call, o_callV, o_ireti, o_iretz, o_lret, o_vret, jg, js, jkp, jkill, jsp, jcs, jfw, jov, Value.category, Option.toList_some, Option.toList_none, List.nil_append, List.cons_append, List.append_nil, Nat.reduceAdd, true_and, and_true, jb0, jb01, jb1, jem, true_or, or_true, Classical.not_not, forall_const, List.length_cons, List.length_nil, Nat.reduceLeDiff, Nat.zero_le, Nat.reduceLT, and_self, not_true_eq_false, not_false_eq_true, false_imp_iff, true_imp_iff, implies_true, and_false, false_and, or_false, false_or, hM, km_37_0 hM, km_37_1 hM, km_37_2 hM, km_37_3 hM, km_37_4 hM, km_37_5 hM, km_37_6 hM, km_37_7 hM, km_37_8 hM, km_37_9 hM, km_37_10 hM, km_37_11 hM, km_37_12 hM, km_37_13 hM, km_37_14 hM, km_37_15 hM, km_37_16 hM, km_37_17 hM, km_37_18 hM, km_37_19 hM, km_37_20 hM, km_37_21 hM, km_37_22 hM, km_37_23 hM, km_37_24 hM, km_37_25 hM, km_37_26 hM, km_37_27 hM, km_37_28 hM, km_37_29 hM, km_37_30 hM, km_37_31 hM, km_37_32 hM, kmo_37 hM, kma_38 hM, kma_39 hM, kma_40 hM, kma_41 hM, kma_42 hM, kma_43 hM, kma_44 hM, kma_45 hM, kma_46 hM, kma_47 hM, kma_48 hM, kma_49 hM, kma_50 hM, kma_52 hM, kma_53 hM, kma_54 hM, kma_55 hM, kma_56 hM, kma_51 hM, c2]
    exact hT
  · refine H0 60 _ _ _ _ _ _ ?_
    simp only [sg_X7_isWithin_0, sg_X7_isWithin_24, sg_X7_isWithin_25, cd_X7_isWithin, jwp, o_ic, o_lc, o_iload, o_lload, o_aload, o_istore, o_lstore, o_astore, o_iinc, o_pop, o_dup, o_dup2, o_iadd, o_isub, o_imul, o_iand, o_ior, o_ishl, o_ladd, o_lmul, o_land, o_lor, o_idiv, o_irem, o_ineg, o_i2l, o_l2i, o_i2b, o_i2s, o_lushr, o_lshr, o_lshl, o_lcmp, o_ifeq, o_ifne, o_iflt, o_ifge, o_ifgt, o_ifle, o_iceq, o_icne, o_iclt, o_icge, o_icgt, o_icle, o_goto, o_tsw, jsw, o_lsw, jlk, o_getf, o_putf, o_putz, o_iald, o_zald, o_iast, o_zast, o_aald, o_alen, o_gets, o_zld, o_zlen, o_cpy, o_call, o_callV, o_ireti, o_iretz, o_lret, o_vret, jg, js, jkp, jkill, jsp, jcs, jfw, jov, Value.category, Option.toList_some, Option.toList_none, List.nil_append, List.cons_append, List.append_nil, Nat.reduceAdd, true_and, and_true, jb0, jb01, jb1, jem, true_or, or_true, Classical.not_not, forall_const, List.length_cons, List.length_nil, Nat.reduceLeDiff, Nat.zero_le, Nat.reduceLT, and_self, not_true_eq_false, not_false_eq_true, false_imp_iff, true_imp_iff, implies_true, and_false, false_and, or_false, false_or, hM, km_37_0 hM, km_37_1 hM, km_37_2 hM, km_37_3 hM, km_37_4 hM, km_37_5 hM, km_37_6 hM, km_37_7 hM, km_37_8 hM, km_37_9 hM, km_37_10 hM, km_37_11 hM, km_37_12 hM, km_37_13 hM, km_37_14 hM, km_37_15 hM, km_37_16 hM, km_37_17 hM, km_37_18 hM, km_37_19 hM, km_37_20 hM, km_37_21 hM, km_37_22 hM, km_37_23 hM, km_37_24 hM, km_37_25 hM, km_37_26 hM, km_37_27 hM, km_37_28 hM, km_37_29 hM, km_37_30 hM, km_37_31 hM, km_37_32 hM, kmo_37 hM, kma_38 hM, kma_39 hM, kma_40 hM, kma_41 hM, kma_42 hM, kma_43 hM, kma_44 hM, kma_45 hM, kma_46 hM, kma_47 hM, kma_48 hM, kma_49 hM, kma_50 hM, kma_52 hM, kma_53 hM, kma_54 hM, kma_55 hM, kma_56 hM, kma_51 hM, c2, hv, nI_clamp h31]
    have es : (f.toInt64 + n.toInt64).toInt = f.toInt + n.toInt := by
      have h1 := Int32.le_toInt f
      have h2 := Int32.toInt_lt f
      have h3 := Int32.le_toInt n
      have h4 := Int32.toInt_lt n
      rw [Int64.toInt_add, Int32.toInt_toInt64, Int32.toInt_toInt64]
      exact Int.bmod_eq_of_le (by omega) (by omega)
    have eh : (h 54 j).toInt64.toInt = (h 54 j).toInt := Int32.toInt_toInt64 _
    have hc : (0 : Int32) < lg_cmp (f.toInt64 + n.toInt64) (h 54 j).toInt64 ↔ ¬ f.toInt + n.toInt ≤ (h 54 j).toInt := by
      rw [← es, ← eh]
      generalize f.toInt64 + n.toInt64 = a
      generalize (h 54 j).toInt64 = b
      rw [lg_cmp_gt, Int64.lt_iff_toInt_lt]
      omega
    refine ⟨fun z => ?_, fun z => ?_⟩
    · rw [jb_neg (fun q => hc.mp z q.2)] at hT
      exact hT
    · have z2 : f.toInt + n.toInt ≤ (h 54 j).toInt := Classical.not_not.mp (fun q => z (hc.mpr q))
      rw [jb_pos ⟨c2, z2⟩] at hT
      exact hT
theorem m_X7_isWithin (l : Launch) : jHolds vwCl l yX7_isWithin wsX7_isWithin 0 0 0 0 T_X7_isWithin := by
  refine m_X7_isWithin_of l (fun G Q vs K h H0 hT => ?_)
  unfold T_X7_isWithin at hT
  split at hT
  · obtain ⟨rfl, hT⟩ := hT
    exact ⟨Nat.le_of_ble_eq_true rfl, v_X7_isWithin hT H0⟩
  · exact hT.elim
