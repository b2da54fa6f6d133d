/-! ===== images, roads ===== -/
def xO (P : Nat) : Int32 := nI (P % 240) + -120
theorem jrem2 {c k : Nat} (h : c < 2147483648) (hk : 0 < k) (hk2 : k < 2147483648) : nI c - nI (c / k) * nI k = nI (c % k) := by
  have e := jrem h hk hk2
  rw [jdiv h hk hk2] at e
  exact e
theorem n240 : ¬ nI 240 = 0 := by decide
def yO (P : Nat) : Int32 := nI (P / 240) + -120

/-! X6_colourOfImage -/
/-- the colour of the image of the cell at place P -/
noncomputable def jimC (h : jM) (w a b : Int32) (P : Nat) : Int32 := jcol (h 2) (jimX w.toInt a (xO P) (yO P)) (jimY w.toInt a b (xO P) (yO P))
def T_X6_colourOfImage : jT := fun vs K h Q => match vs with
  | [.ref r0, .int w, .int a, .int b, .int p] => r0 = 0 ∧ (jX K ∧ (∃ P : Nat, P < 57600 ∧ p = nI P ∧ Q (some (.int (jimC h w a b P))) K h))
  | _ => False
def sg_X6_colourOfImage_0 : jS := [(o_iload 4, 2), (o_ic (240), 3), (o_irem, 1), (o_ic (-120), 2), (o_iadd, 1), (o_istore 5, 2), (o_iload 4, 2), (o_ic (240), 3), (o_idiv, 1), (o_ic (-120), 2), (o_iadd, 1), (o_istore 6, 2)]
def sg_X6_colourOfImage_22 : jS := [(o_aload 0, 1), (o_getf 6 0, 3), (o_getf 1 2, 3), (o_iload 1, 1), (o_iload 2, 1), (o_iload 5, 2), (o_iload 6, 2), (o_call 4 T_X6_imageX, 3), (o_iload 1, 1), (o_iload 2, 1), (o_iload 3, 1), (o_iload 5, 2), (o_iload 6, 2), (o_call 5 T_X6_imageY, 3), (o_call 3 T_X6_colourIn, 3), (o_ireti, 1)]
def cd_X6_colourOfImage : Nat → jS := fun t => match t with
  | _ => []
theorem wl_X6_colourOfImage_12 : Cond.fieldLink RX6 12 (TX6 0).1 (TX6 0).2.1 (TX6 0).2.2.1 ∈ wsX6_colourOfImage := by decide +kernel
theorem wl_X6_colourOfImage_111 : Cond.fieldLink RX6 111 (TX1 2).1 (TX1 2).2.1 (TX1 2).2.2.1 ∈ wsX6_colourOfImage := by decide +kernel
theorem wi_X6_colourOfImage_X1 : ∀ w ∈ u_ws RX1 TX1 4, w ∈ wsX6_colourOfImage := by decide +kernel
theorem wi_X6_colourOfImage_X6 : ∀ w ∈ u_ws RX6 TX6 9, w ∈ wsX6_colourOfImage := by decide +kernel
def E_X6_colourOfImage (Γ : jΓ) (Q : jPost) : Prop := Γ.2.2.2.2.2.2.2.2.2.2.1 = 7 ∧ Γ.2.2.2.2.2.2.2.2.2.2.2.1 = vwCl ∧ jC Γ cX6_colourOfImage RX6 "colourOfImage" (some .int) wsX6_colourOfImage 3 65 0 0 ∧ jR Γ Q 0 0
theorem oo_X6_colourOfImage_0 {Γ : jΓ} {Q : jPost} (E : E_X6_colourOfImage Γ Q) : jSA Γ Q 0 (o_iload 4) 2 := so_iload E.2.2.1 dX6_colourOfImage_0
theorem oo_X6_colourOfImage_2 {Γ : jΓ} {Q : jPost} (E : E_X6_colourOfImage Γ Q) : jSA Γ Q 2 (o_ic (240)) 3 := so_sipush E.2.2.1 rfl dX6_colourOfImage_2
theorem oo_X6_colourOfImage_5 {Γ : jΓ} {Q : jPost} (E : E_X6_colourOfImage Γ Q) : jSA Γ Q 5 (o_irem) 1 := so_irem E.2.2.1 dX6_colourOfImage_5
theorem oo_X6_colourOfImage_6 {Γ : jΓ} {Q : jPost} (E : E_X6_colourOfImage Γ Q) : jSA Γ Q 6 (o_ic (-120)) 2 := so_bipush E.2.2.1 rfl dX6_colourOfImage_6
theorem oo_X6_colourOfImage_8 {Γ : jΓ} {Q : jPost} (E : E_X6_colourOfImage Γ Q) : jSA Γ Q 8 (o_iadd) 1 := so_iadd E.2.2.1 dX6_colourOfImage_8
theorem oo_X6_colourOfImage_9 {Γ : jΓ} {Q : jPost} (E : E_X6_colourOfImage Γ Q) : jSA Γ Q 9 (o_istore 5) 2 := so_istore E.2.2.1 (by rw [E.1]; decide) dX6_colourOfImage_9
theorem oo_X6_colourOfImage_11 {Γ : jΓ} {Q : jPost} (E : E_X6_colourOfImage Γ Q) : jSA Γ Q 11 (o_iload 4) 2 := so_iload E.2.2.1 dX6_colourOfImage_11
theorem oo_X6_colourOfImage_13 {Γ : jΓ} {Q : jPost} (E : E_X6_colourOfImage Γ Q) : jSA Γ Q 13 (o_ic (240)) 3 := so_sipush E.2.2.1 rfl dX6_colourOfImage_13
theorem oo_X6_colourOfImage_16 {Γ : jΓ} {Q : jPost} (E : E_X6_colourOfImage Γ Q) : jSA Γ Q 16 (o_idiv) 1 := so_idiv E.2.2.1 dX6_colourOfImage_16
theorem oo_X6_colourOfImage_17 {Γ : jΓ} {Q : jPost} (E : E_X6_colourOfImage Γ Q) : jSA Γ Q 17 (o_ic (-120)) 2 := so_bipush E.2.2.1 rfl dX6_colourOfImage_17
theorem oo_X6_colourOfImage_19 {Γ : jΓ} {Q : jPost} (E : E_X6_colourOfImage Γ Q) : jSA Γ Q 19 (o_iadd) 1 := so_iadd E.2.2.1 dX6_colourOfImage_19
theorem oo_X6_colourOfImage_20 {Γ : jΓ} {Q : jPost} (E : E_X6_colourOfImage Γ Q) : jSA Γ Q 20 (o_istore 6) 2 := so_istore E.2.2.1 (by rw [E.1]; decide) dX6_colourOfImage_20
theorem oo_X6_colourOfImage_22 {Γ : jΓ} {Q : jPost} (E : E_X6_colourOfImage Γ Q) : jSA Γ Q 22 (o_aload 0) 1 := so_aload_n E.2.2.1 rfl dX6_colourOfImage_22
theorem oo_X6_colourOfImage_23 {Γ : jΓ} {Q : jPost} (E : E_X6_colourOfImage Γ Q) : jSA Γ Q 23 (o_getf 6 0) 3 := so_getf (ci := 6) E.2.2.1 wi_X6_colourOfImage_X6 (by rw [E.2.1]; rfl) 0 (by decide) wl_X6_colourOfImage_12 dX6_colourOfImage_23
theorem oo_X6_colourOfImage_26 {Γ : jΓ} {Q : jPost} (E : E_X6_colourOfImage Γ Q) : jSA Γ Q 26 (o_getf 1 2) 3 := so_getf (ci := 1) E.2.2.1 wi_X6_colourOfImage_X1 (by rw [E.2.1]; rfl) 2 (by decide) wl_X6_colourOfImage_111 dX6_colourOfImage_26
theorem oo_X6_colourOfImage_29 {Γ : jΓ} {Q : jPost} (E : E_X6_colourOfImage Γ Q) : jSA Γ Q 29 (o_iload 1) 1 := so_iload_n E.2.2.1 rfl dX6_colourOfImage_29
theorem oo_X6_colourOfImage_30 {Γ : jΓ} {Q : jPost} (E : E_X6_colourOfImage Γ Q) : jSA Γ Q 30 (o_iload 2) 1 := so_iload_n E.2.2.1 rfl dX6_colourOfImage_30
theorem oo_X6_colourOfImage_31 {Γ : jΓ} {Q : jPost} (E : E_X6_colourOfImage Γ Q) : jSA Γ Q 31 (o_iload 5) 2 := so_iload E.2.2.1 dX6_colourOfImage_31
theorem oo_X6_colourOfImage_33 {Γ : jΓ} {Q : jPost} (E : E_X6_colourOfImage Γ Q) : jSA Γ Q 33 (o_iload 6) 2 := so_iload E.2.2.1 dX6_colourOfImage_33
theorem oo_X6_colourOfImage_35 {Γ : jΓ} {Q : jPost} (E : E_X6_colourOfImage Γ Q) : jSA Γ Q 35 (o_call 4 T_X6_imageX) 3 := so_callS E.2.2.1 gX6_colourOfImage_X6_imageX (by decide +kernel) rfl (by rw [E.2.1]; exact m_X6_imageX _) (by decide) (by decide) dX6_colourOfImage_35
theorem oo_X6_colourOfImage_38 {Γ : jΓ} {Q : jPost} (E : E_X6_colourOfImage Γ Q) : jSA Γ Q 38 (o_iload 1) 1 := so_iload_n E.2.2.1 rfl dX6_colourOfImage_38
theorem oo_X6_colourOfImage_39 {Γ : jΓ} {Q : jPost} (E : E_X6_colourOfImage Γ Q) : jSA Γ Q 39 (o_iload 2) 1 := so_iload_n E.2.2.1 rfl dX6_colourOfImage_39
theorem oo_X6_colourOfImage_40 {Γ : jΓ} {Q : jPost} (E : E_X6_colourOfImage Γ Q) : jSA Γ Q 40 (o_iload 3) 1 := so_iload_n E.2.2.1 rfl dX6_colourOfImage_40
theorem oo_X6_colourOfImage_41 {Γ : jΓ} {Q : jPost} (E : E_X6_colourOfImage Γ Q) : jSA Γ Q 41 (o_iload 5) 2 := so_iload E.2.2.1 dX6_colourOfImage_41
theorem oo_X6_colourOfImage_43 {Γ : jΓ} {Q : jPost} (E : E_X6_colourOfImage Γ Q) : jSA Γ Q 43 (o_iload 6) 2 := so_iload E.2.2.1 dX6_colourOfImage_43
theorem oo_X6_colourOfImage_45 {Γ : jΓ} {Q : jPost} (E : E_X6_colourOfImage Γ Q) : jSA Γ Q 45 (o_call 5 T_X6_imageY) 3 := so_callS E.2.2.1 gX6_colourOfImage_X6_imageY (by decide +kernel) rfl (by rw [E.2.1]; exact m_X6_imageY _) (by decide) (by decide) dX6_colourOfImage_45
theorem oo_X6_colourOfImage_48 {Γ : jΓ} {Q : jPost} (E : E_X6_colourOfImage Γ Q) : jSA Γ Q 48 (o_call 3 T_X6_colourIn) 3 := so_callS E.2.2.1 gX6_colourOfImage_X6_colourIn (by decide +kernel) rfl (by rw [E.2.1]; exact m_X6_colourIn _) (by decide) (by decide) dX6_colourOfImage_48
theorem oo_X6_colourOfImage_51 {Γ : jΓ} {Q : jPost} (E : E_X6_colourOfImage Γ Q) : jSA Γ Q 51 (o_ireti) 1 := so_ireti E.2.2.1 E.2.2.2 dX6_colourOfImage_51
theorem ok_X6_colourOfImage_0 {Γ : jΓ} {Q : jPost} (E : E_X6_colourOfImage Γ Q) : jSS Γ Q 0 sg_X6_colourOfImage_0 := ⟨oo_X6_colourOfImage_0 E, oo_X6_colourOfImage_2 E, oo_X6_colourOfImage_5 E, oo_X6_colourOfImage_6 E, oo_X6_colourOfImage_8 E, oo_X6_colourOfImage_9 E, oo_X6_colourOfImage_11 E, oo_X6_colourOfImage_13 E, oo_X6_colourOfImage_16 E, oo_X6_colourOfImage_17 E, oo_X6_colourOfImage_19 E, oo_X6_colourOfImage_20 E, trivial⟩
theorem ok_X6_colourOfImage_22 {Γ : jΓ} {Q : jPost} (E : E_X6_colourOfImage Γ Q) : jSS Γ Q 22 sg_X6_colourOfImage_22 := ⟨oo_X6_colourOfImage_22 E, oo_X6_colourOfImage_23 E, oo_X6_colourOfImage_26 E, oo_X6_colourOfImage_29 E, oo_X6_colourOfImage_30 E, oo_X6_colourOfImage_31 E, oo_X6_colourOfImage_33 E, oo_X6_colourOfImage_35 E, oo_X6_colourOfImage_38 E, oo_X6_colourOfImage_39 E, oo_X6_colourOfImage_40 E, oo_X6_colourOfImage_41 E, oo_X6_colourOfImage_43 E, oo_X6_colourOfImage_45 E, oo_X6_colourOfImage_48 E, oo_X6_colourOfImage_51 E, trivial⟩
theorem okc_X6_colourOfImage {Γ : jΓ} {Q : jPost} (E : E_X6_colourOfImage Γ Q) (t : Nat) : jSS Γ Q t (cd_X6_colourOfImage t) := by
  unfold cd_X6_colourOfImage
  trivial
theorem m_X6_colourOfImage_of (l : Launch) (hv : ∀ (G : jGt) (Q : jPost) (vs : List Value) (K : List jK) (h : jM), jHd cd_X6_colourOfImage G Q sg_X6_colourOfImage_0 0 → jHd cd_X6_colourOfImage G Q sg_X6_colourOfImage_22 22 → T_X6_colourOfImage vs K h Q → (lg_sl vs).length ≤ 7 ∧ G 0 (jinit vs 7) [] K h 0 0) : jHolds vwCl l yX6_colourOfImage wsX6_colourOfImage 3 65 0 0 T_X6_colourOfImage := by
  refine jMet (cc := cX6_colourOfImage) (maxL := 7) (rt := (some .int)) (by decide +kernel) rfl (fun Γ Q vs K h hl hn hcl C hR hT => hv (jG Γ) Q vs K h ?_ ?_ hT)
  · exact fun n L st K h ce sl => jwp_ok (okc_X6_colourOfImage ⟨hn, hcl, C, hR⟩) n sg_X6_colourOfImage_0 0 (ok_X6_colourOfImage_0 ⟨hn, hcl, C, hR⟩) L st K h ce sl
  · exact fun n L st K h ce sl => jwp_ok (okc_X6_colourOfImage ⟨hn, hcl, C, hR⟩) n sg_X6_colourOfImage_22 22 (ok_X6_colourOfImage_22 ⟨hn, hcl, C, hR⟩) L st K h ce sl
set_option maxHeartbeats 4000000 in
set_option maxRecDepth 100000 in
theorem v_X6_colourOfImage {G : jGt} {Q : jPost} {K : List jK} {h : jM} {w : Int32} {a : Int32} {b : Int32} {p : Int32} (hT : jX K ∧ (∃ P : Nat, P < 57600 ∧ p = nI P ∧ Q (some (.int (jimC h w a b P))) K h)) (H0 : jHd cd_X6_colourOfImage G Q sg_X6_colourOfImage_0 0) (H22 : jHd cd_X6_colourOfImage G Q sg_X6_colourOfImage_22 22) : G 0 [some (.ref 0), some (.int w), some (.int a), some (.int b), some (.int p), none, none] [] K h 0 0 := by
  obtain ⟨hX, P, hP, rfl, hT⟩ := hT
  have n0 : ¬ (240 : Int32) = 0 := by decide
  unfold jimC xO yO at hT
  refine H0 60 _ _ _ _ _ _ ?_
  simp only [sg_X6_colourOfImage_0, sg_X6_colourOfImage_22, cd_X6_colourOfImage, jwp, o_ic, o_lc, o_iload, o_lload, o_aload, o_istore, o_lstore, o_astore, o_iinc, o_pop, o_dup, o_dup2, o_iadd, o_isub, o_imul, o_iand, o_ior, o_ishl, o_ladd, o_lmul, o_land, o_lor, o_idiv, o_irem, o_ineg, o_i2l, o_l2i, o_i2b, o_i2s, o_lushr, o_lshr, o_lshl, o_lcmp, o_ifeq, o_ifne, o_iflt, o_ifge, o_ifgt, o_ifle, o_iceq, o_icne, o_iclt, o_icge, o_icgt, o_icle, o_goto, o_tsw, jsw, o_lsw, jlk, o_getf, o_putf, o_putz, o_iald, o_zald, o_iast, o_zast, o_aald, o_alen, o_gets, o_zld, o_zlen, o_cpy, o_call, o_callV, o_ireti, o_iretz, o_lret, o_vret, jg, js, jkp, jkill, jsp, jcs, jfw, jov, Value.category, Option.toList_some, Option.toList_none, List.nil_append, List.cons_append, List.append_nil, Nat.reduceAdd, true_and, and_true, jb0, jb01, jb1, jem, true_or, or_true, Classical.not_not, forall_const, List.length_cons, List.length_nil, Nat.reduceLeDiff, Nat.zero_le, Nat.reduceLT, and_self, not_true_eq_false, not_false_eq_true, false_imp_iff, true_imp_iff, implies_true, and_false, false_and, or_false, false_or, e240, n240, not_false_eq_true, jrem2 (show P < 2147483648 by omega) (show 0 < 240 by decide) (show 240 < 2147483648 by decide), jdiv (show P < 2147483648 by omega) (show 0 < 240 by decide) (show 240 < 2147483648 by decide)]
  refine H22 60 _ _ _ _ _ _ ?_
  simp only [sg_X6_colourOfImage_0, sg_X6_colourOfImage_22, cd_X6_colourOfImage, jwp, o_ic, o_lc, o_iload, o_lload, o_aload, o_istore, o_lstore, o_astore, o_iinc, o_pop, o_dup, o_dup2, o_iadd, o_isub, o_imul, o_iand, o_ior, o_ishl, o_ladd, o_lmul, o_land, o_lor, o_idiv, o_irem, o_ineg, o_i2l, o_l2i, o_i2b, o_i2s, o_lushr, o_lshr, o_lshl, o_lcmp, o_ifeq, o_ifne, o_iflt, o_ifge, o_ifgt, o_ifle, o_iceq, o_icne, o_iclt, o_icge, o_icgt, o_icle, o_goto, o_tsw, jsw, o_lsw, jlk, o_getf, o_putf, o_putz, o_iald, o_zald, o_iast, o_zast, o_aald, o_alen, o_gets, o_zld, o_zlen, o_cpy, o_call, o_callV, o_ireti, o_iretz, o_lret, o_vret, jg, js, jkp, jkill, jsp, jcs, jfw, jov, Value.category, Option.toList_some, Option.toList_none, List.nil_append, List.cons_append, List.append_nil, Nat.reduceAdd, true_and, and_true, jb0, jb01, jb1, jem, true_or, or_true, Classical.not_not, forall_const, List.length_cons, List.length_nil, Nat.reduceLeDiff, Nat.zero_le, Nat.reduceLT, and_self, not_true_eq_false, not_false_eq_true, false_imp_iff, true_imp_iff, implies_true, and_false, false_and, or_false, false_or, hX, kx_0_0 hX, kx_0_1 hX, kx_0_2 hX, kx_0_3 hX, kx_0_4 hX, kx_0_5 hX, kx_0_6 hX, kx_0_7 hX, kx_0_8 hX, kxo_0 hX, kx_1_0 hX, kx_1_1 hX, kx_1_2 hX, kx_1_3 hX, kxo_1 hX, kx_4_0 hX, kx_4_1 hX, kx_4_2 hX, kxo_4 hX, kx_19_0 hX, kx_19_1 hX, kx_19_2 hX, kx_19_3 hX, kx_19_4 hX, kxo_19 hX, kx_24_0 hX, kx_24_1 hX, kx_24_2 hX, kx_24_3 hX, kx_24_4 hX, kx_24_5 hX, kx_24_6 hX, kxo_24 hX, kxa_2 hX, kxa_3 hX, kxa_6 hX, kxa_7 hX, kxa_8 hX, kxa_9 hX, kxa_10 hX, kxa_18 hX, kxa_20 hX, kxa_21 hX, kxa_22 hX, kxa_23 hX, kxa_26 hX, kxa_27 hX, kxr_5 hX, kxr_11 hX, kxr_28 hX, T_X6_imageX, T_X6_imageY, T_X6_colourIn]
  exact hT
theorem m_X6_colourOfImage (l : Launch) : jHolds vwCl l yX6_colourOfImage wsX6_colourOfImage 3 65 0 0 T_X6_colourOfImage := by
  refine m_X6_colourOfImage_of l (fun G Q vs K h H0 H22 hT => ?_)
  unfold T_X6_colourOfImage at hT
  split at hT
  · obtain ⟨rfl, hT⟩ := hT
    exact ⟨Nat.le_of_ble_eq_true rfl, v_X6_colourOfImage hT H0 H22⟩
  · exact hT.elim

/-! X6_isLikeImage -/
def T_X6_isLikeImage : jT := fun vs K h Q => match vs with
  | [.ref r0, .int w, .int a, .int b] => r0 = 0 ∧ (jX K ∧ Q (some (.int (jb (∀ P, P < 57600 → ¬ h 2 P = 0 → h 2 P = jimC h w a b P)))) K h)
  | _ => False
def sg_X6_isLikeImage_0 : jS := [(o_ic (0), 1), (o_istore 4, 2)]
def sg_X6_isLikeImage_3 : jS := [(o_iload 4, 2), (o_ic (57600), 2), (o_icge 49, 3), (o_aload 0, 1), (o_getf 6 0, 3), (o_getf 1 2, 3), (o_iload 4, 2), (o_iald, 1), (o_istore 5, 2), (o_iload 5, 2), (o_ifeq 43, 3), (o_iload 5, 2), (o_aload 0, 1), (o_iload 1, 1), (o_iload 2, 1), (o_iload 3, 1), (o_iload 4, 2), (o_callV 5 6 T_X6_colourOfImage, 3), (o_iceq 43, 3), (o_ic (0), 1), (o_iretz, 1)]
def sg_X6_isLikeImage_43 : jS := [(o_iinc 4 (1), 3), (o_goto 3, 3)]
def sg_X6_isLikeImage_49 : jS := [(o_ic (1), 1), (o_iretz, 1)]
def cd_X6_isLikeImage : Nat → jS := fun t => match t with
  | 43 => sg_X6_isLikeImage_43
  | 49 => sg_X6_isLikeImage_49
  | _ => []
theorem wl_X6_isLikeImage_12 : Cond.fieldLink RX6 12 (TX6 0).1 (TX6 0).2.1 (TX6 0).2.2.1 ∈ wsX6_isLikeImage := by decide +kernel
theorem wl_X6_isLikeImage_111 : Cond.fieldLink RX6 111 (TX1 2).1 (TX1 2).2.1 (TX1 2).2.2.1 ∈ wsX6_isLikeImage := by decide +kernel
theorem wi_X6_isLikeImage_X1 : ∀ w ∈ u_ws RX1 TX1 4, w ∈ wsX6_isLikeImage := by decide +kernel
theorem wi_X6_isLikeImage_X6 : ∀ w ∈ u_ws RX6 TX6 9, w ∈ wsX6_isLikeImage := by decide +kernel
def E_X6_isLikeImage (Γ : jΓ) (Q : jPost) : Prop := Γ.2.2.2.2.2.2.2.2.2.2.1 = 6 ∧ Γ.2.2.2.2.2.2.2.2.2.2.2.1 = vwCl ∧ jC Γ cX6_isLikeImage RX6 "isLikeImage" (some .boolean) wsX6_isLikeImage 4 91 0 0 ∧ jR Γ Q 0 0
theorem oo_X6_isLikeImage_0 {Γ : jΓ} {Q : jPost} (E : E_X6_isLikeImage Γ Q) : jSA Γ Q 0 (o_ic (0)) 1 := so_iconst E.2.2.1 rfl dX6_isLikeImage_0
theorem oo_X6_isLikeImage_1 {Γ : jΓ} {Q : jPost} (E : E_X6_isLikeImage Γ Q) : jSA Γ Q 1 (o_istore 4) 2 := so_istore E.2.2.1 (by rw [E.1]; decide) dX6_isLikeImage_1
theorem oo_X6_isLikeImage_3 {Γ : jΓ} {Q : jPost} (E : E_X6_isLikeImage Γ Q) : jSA Γ Q 3 (o_iload 4) 2 := so_iload E.2.2.1 dX6_isLikeImage_3
theorem oo_X6_isLikeImage_5 {Γ : jΓ} {Q : jPost} (E : E_X6_isLikeImage Γ Q) : jSA Γ Q 5 (o_ic (57600)) 2 := so_ldc E.2.2.1 (by decide +kernel) dX6_isLikeImage_5
theorem oo_X6_isLikeImage_7 {Γ : jΓ} {Q : jPost} (E : E_X6_isLikeImage Γ Q) : jSA Γ Q 7 (o_icge 49) 3 := so_icge E.2.2.1 (by decide) dX6_isLikeImage_7
theorem oo_X6_isLikeImage_10 {Γ : jΓ} {Q : jPost} (E : E_X6_isLikeImage Γ Q) : jSA Γ Q 10 (o_aload 0) 1 := so_aload_n E.2.2.1 rfl dX6_isLikeImage_10
theorem oo_X6_isLikeImage_11 {Γ : jΓ} {Q : jPost} (E : E_X6_isLikeImage Γ Q) : jSA Γ Q 11 (o_getf 6 0) 3 := so_getf (ci := 6) E.2.2.1 wi_X6_isLikeImage_X6 (by rw [E.2.1]; rfl) 0 (by decide) wl_X6_isLikeImage_12 dX6_isLikeImage_11
theorem oo_X6_isLikeImage_14 {Γ : jΓ} {Q : jPost} (E : E_X6_isLikeImage Γ Q) : jSA Γ Q 14 (o_getf 1 2) 3 := so_getf (ci := 1) E.2.2.1 wi_X6_isLikeImage_X1 (by rw [E.2.1]; rfl) 2 (by decide) wl_X6_isLikeImage_111 dX6_isLikeImage_14
theorem oo_X6_isLikeImage_17 {Γ : jΓ} {Q : jPost} (E : E_X6_isLikeImage Γ Q) : jSA Γ Q 17 (o_iload 4) 2 := so_iload E.2.2.1 dX6_isLikeImage_17
theorem oo_X6_isLikeImage_19 {Γ : jΓ} {Q : jPost} (E : E_X6_isLikeImage Γ Q) : jSA Γ Q 19 (o_iald) 1 := so_iald E.2.2.1 dX6_isLikeImage_19
theorem oo_X6_isLikeImage_20 {Γ : jΓ} {Q : jPost} (E : E_X6_isLikeImage Γ Q) : jSA Γ Q 20 (o_istore 5) 2 := so_istore E.2.2.1 (by rw [E.1]; decide) dX6_isLikeImage_20
theorem oo_X6_isLikeImage_22 {Γ : jΓ} {Q : jPost} (E : E_X6_isLikeImage Γ Q) : jSA Γ Q 22 (o_iload 5) 2 := so_iload E.2.2.1 dX6_isLikeImage_22
theorem oo_X6_isLikeImage_24 {Γ : jΓ} {Q : jPost} (E : E_X6_isLikeImage Γ Q) : jSA Γ Q 24 (o_ifeq 43) 3 := so_ifeq E.2.2.1 (by decide) dX6_isLikeImage_24
theorem oo_X6_isLikeImage_27 {Γ : jΓ} {Q : jPost} (E : E_X6_isLikeImage Γ Q) : jSA Γ Q 27 (o_iload 5) 2 := so_iload E.2.2.1 dX6_isLikeImage_27
theorem oo_X6_isLikeImage_29 {Γ : jΓ} {Q : jPost} (E : E_X6_isLikeImage Γ Q) : jSA Γ Q 29 (o_aload 0) 1 := so_aload_n E.2.2.1 rfl dX6_isLikeImage_29
theorem oo_X6_isLikeImage_30 {Γ : jΓ} {Q : jPost} (E : E_X6_isLikeImage Γ Q) : jSA Γ Q 30 (o_iload 1) 1 := so_iload_n E.2.2.1 rfl dX6_isLikeImage_30
theorem oo_X6_isLikeImage_31 {Γ : jΓ} {Q : jPost} (E : E_X6_isLikeImage Γ Q) : jSA Γ Q 31 (o_iload 2) 1 := so_iload_n E.2.2.1 rfl dX6_isLikeImage_31
theorem oo_X6_isLikeImage_32 {Γ : jΓ} {Q : jPost} (E : E_X6_isLikeImage Γ Q) : jSA Γ Q 32 (o_iload 3) 1 := so_iload_n E.2.2.1 rfl dX6_isLikeImage_32
theorem oo_X6_isLikeImage_33 {Γ : jΓ} {Q : jPost} (E : E_X6_isLikeImage Γ Q) : jSA Γ Q 33 (o_iload 4) 2 := so_iload E.2.2.1 dX6_isLikeImage_33
theorem oo_X6_isLikeImage_35 {Γ : jΓ} {Q : jPost} (E : E_X6_isLikeImage Γ Q) : jSA Γ Q 35 (o_callV 5 6 T_X6_colourOfImage) 3 := so_callV E.2.2.1 (ci := 6) (by rw [E.2.1]; rfl) gX6_isLikeImage_X6_colourOfImage (by decide +kernel) rfl (by rw [E.2.1]; exact m_X6_colourOfImage _) (by decide) (by decide) dX6_isLikeImage_35
theorem oo_X6_isLikeImage_38 {Γ : jΓ} {Q : jPost} (E : E_X6_isLikeImage Γ Q) : jSA Γ Q 38 (o_iceq 43) 3 := so_iceq E.2.2.1 (by decide) dX6_isLikeImage_38
theorem oo_X6_isLikeImage_41 {Γ : jΓ} {Q : jPost} (E : E_X6_isLikeImage Γ Q) : jSA Γ Q 41 (o_ic (0)) 1 := so_iconst E.2.2.1 rfl dX6_isLikeImage_41
theorem oo_X6_isLikeImage_42 {Γ : jΓ} {Q : jPost} (E : E_X6_isLikeImage Γ Q) : jSA Γ Q 42 (o_iretz) 1 := so_iretz E.2.2.1 E.2.2.2 dX6_isLikeImage_42
theorem oo_X6_isLikeImage_43 {Γ : jΓ} {Q : jPost} (E : E_X6_isLikeImage Γ Q) : jSA Γ Q 43 (o_iinc 4 (1)) 3 := so_iinc E.2.2.1 rfl (by rw [E.1]; decide) dX6_isLikeImage_43
theorem oo_X6_isLikeImage_46 {Γ : jΓ} {Q : jPost} (E : E_X6_isLikeImage Γ Q) : jSA Γ Q 46 (o_goto 3) 3 := so_goto E.2.2.1 (by decide) dX6_isLikeImage_46
theorem oo_X6_isLikeImage_49 {Γ : jΓ} {Q : jPost} (E : E_X6_isLikeImage Γ Q) : jSA Γ Q 49 (o_ic (1)) 1 := so_iconst E.2.2.1 rfl dX6_isLikeImage_49
theorem oo_X6_isLikeImage_50 {Γ : jΓ} {Q : jPost} (E : E_X6_isLikeImage Γ Q) : jSA Γ Q 50 (o_iretz) 1 := so_iretz E.2.2.1 E.2.2.2 dX6_isLikeImage_50
theorem ok_X6_isLikeImage_0 {Γ : jΓ} {Q : jPost} (E : E_X6_isLikeImage Γ Q) : jSS Γ Q 0 sg_X6_isLikeImage_0 := ⟨oo_X6_isLikeImage_0 E, oo_X6_isLikeImage_1 E, trivial⟩
theorem ok_X6_isLikeImage_3 {Γ : jΓ} {Q : jPost} (E : E_X6_isLikeImage Γ Q) : jSS Γ Q 3 sg_X6_isLikeImage_3 := ⟨oo_X6_isLikeImage_3 E, oo_X6_isLikeImage_5 E, oo_X6_isLikeImage_7 E, oo_X6_isLikeImage_10 E, oo_X6_isLikeImage_11 E, oo_X6_isLikeImage_14 E, oo_X6_isLikeImage_17 E, oo_X6_isLikeImage_19 E, oo_X6_isLikeImage_20 E, oo_X6_isLikeImage_22 E, oo_X6_isLikeImage_24 E, oo_X6_isLikeImage_27 E, oo_X6_isLikeImage_29 E, oo_X6_isLikeImage_30 E, oo_X6_isLikeImage_31 E, oo_X6_isLikeImage_32 E, oo_X6_isLikeImage_33 E, oo_X6_isLikeImage_35 E, oo_X6_isLikeImage_38 E, oo_X6_isLikeImage_41 E, oo_X6_isLikeImage_42 E, trivial⟩
theorem ok_X6_isLikeImage_43 {Γ : jΓ} {Q : jPost} (E : E_X6_isLikeImage Γ Q) : jSS Γ Q 43 sg_X6_isLikeImage_43 := ⟨oo_X6_isLikeImage_43 E, oo_X6_isLikeImage_46 E, trivial⟩
theorem ok_X6_isLikeImage_49 {Γ : jΓ} {Q : jPost} (E : E_X6_isLikeImage Γ Q) : jSS Γ Q 49 sg_X6_isLikeImage_49 := ⟨oo_X6_isLikeImage_49 E, oo_X6_isLikeImage_50 E, trivial⟩
theorem okc_X6_isLikeImage {Γ : jΓ} {Q : jPost} (E : E_X6_isLikeImage Γ Q) (t : Nat) : jSS Γ Q t (cd_X6_isLikeImage t) := by
  unfold cd_X6_isLikeImage
  split
  · exact ok_X6_isLikeImage_43 E
  · exact ok_X6_isLikeImage_49 E
  · trivial
theorem m_X6_isLikeImage_of (l : Launch) (hv : ∀ (G : jGt) (Q : jPost) (vs : List Value) (K : List jK) (h : jM), jHd cd_X6_isLikeImage G Q sg_X6_isLikeImage_0 0 → jHd cd_X6_isLikeImage G Q sg_X6_isLikeImage_3 3 → T_X6_isLikeImage vs K h Q → (lg_sl vs).length ≤ 6 ∧ G 0 (jinit vs 6) [] K h 0 0) : jHolds vwCl l yX6_isLikeImage wsX6_isLikeImage 4 91 0 0 T_X6_isLikeImage := by
  refine jMet (cc := cX6_isLikeImage) (maxL := 6) (rt := (some .boolean)) (by decide +kernel) rfl (fun Γ Q vs K h hl hn hcl C hR hT => hv (jG Γ) Q vs K h ?_ ?_ hT)
  · exact fun n L st K h ce sl => jwp_ok (okc_X6_isLikeImage ⟨hn, hcl, C, hR⟩) n sg_X6_isLikeImage_0 0 (ok_X6_isLikeImage_0 ⟨hn, hcl, C, hR⟩) L st K h ce sl
  · exact fun n L st K h ce sl => jwp_ok (okc_X6_isLikeImage ⟨hn, hcl, C, hR⟩) n sg_X6_isLikeImage_3 3 (ok_X6_isLikeImage_3 ⟨hn, hcl, C, hR⟩) L st K h ce sl
set_option maxHeartbeats 4000000 in
set_option maxRecDepth 100000 in
theorem v_X6_isLikeImage {G : jGt} {Q : jPost} {K : List jK} {h : jM} {w : Int32} {a : Int32} {b : Int32} (hT : jX K ∧ Q (some (.int (jb (∀ P, P < 57600 → ¬ h 2 P = 0 → h 2 P = jimC h w a b P)))) K h) (H0 : jHd cd_X6_isLikeImage G Q sg_X6_isLikeImage_0 0) (H3 : jHd cd_X6_isLikeImage G Q sg_X6_isLikeImage_3 3) : G 0 [some (.ref 0), some (.int w), some (.int a), some (.int b), none, none] [] K h 0 0 := by
  obtain ⟨hX, hT⟩ := hT
  have loop : ∀ n i, i + n = 57600 → (∀ P, P < i → ¬ h 2 P = 0 → h 2 P = jimC h w a b P) → ∀ x5, G 3 [some (.ref 0), some (.int w), some (.int a), some (.int b), some (.int (nI i)), x5] [] K h 0 0 := by
    intro n
    induction n with
    | zero =>
      intro i hi hz x5
      have : i = 57600 := by omega
      subst this
      refine H3 40 _ _ _ _ _ _ ?_
      simp only [sg_X6_isLikeImage_0, sg_X6_isLikeImage_3, sg_X6_isLikeImage_43, sg_X6_isLikeImage_49, cd_X6_isLikeImage, jwp, o_ic, o_lc, o_iload, o_lload, o_aload, o_istore, o_lstore, o_astore, o_iinc, o_pop, o_dup, o_dup2, o_iadd, o_isub, o_imul, o_iand, o_ior, o_ishl, o_ladd, o_lmul, o_land, o_lor, o_idiv, o_irem, o_ineg, o_i2l, o_l2i, o_i2b, o_i2s, o_lushr, o_lshr, o_lshl, o_lcmp, o_ifeq, o_ifne, o_iflt, o_ifge, o_ifgt, o_ifle, o_iceq, o_icne, o_iclt, o_icge, o_icgt, o_icle, o_goto, o_tsw, jsw, o_lsw, jlk, o_getf, o_putf, o_putz, o_iald, o_zald, o_iast, o_zast, o_aald, o_alen, o_gets, o_zld, o_zlen, o_cpy, o_call, o_callV, o_ireti, o_iretz, o_lret, o_vret, jg, js, jkp, jkill, jsp, jcs, jfw, jov, Value.category, Option.toList_some, Option.toList_none, List.nil_append, List.cons_append, List.append_nil, Nat.reduceAdd, true_and, and_true, jb0, jb01, jb1, jem, true_or, or_true, Classical.not_not, forall_const, List.length_cons, List.length_nil, Nat.reduceLeDiff, Nat.zero_le, Nat.reduceLT, hX, kx_0_0 hX, kx_0_1 hX, kx_0_2 hX, kx_0_3 hX, kx_0_4 hX, kx_0_5 hX, kx_0_6 hX, kx_0_7 hX, kx_0_8 hX, kxo_0 hX, kx_1_0 hX, kx_1_1 hX, kx_1_2 hX, kx_1_3 hX, kxo_1 hX, kx_4_0 hX, kx_4_1 hX, kx_4_2 hX, kxo_4 hX, kx_19_0 hX, kx_19_1 hX, kx_19_2 hX, kx_19_3 hX, kx_19_4 hX, kxo_19 hX, kx_24_0 hX, kx_24_1 hX, kx_24_2 hX, kx_24_3 hX, kx_24_4 hX, kx_24_5 hX, kx_24_6 hX, kxo_24 hX, kxa_2 hX, kxa_3 hX, kxa_6 hX, kxa_7 hX, kxa_8 hX, kxa_9 hX, kxa_10 hX, kxa_18 hX, kxa_20 hX, kxa_21 hX, kxa_22 hX, kxa_23 hX, kxa_26 hX, kxa_27 hX, kxr_5 hX, kxr_11 hX, kxr_28 hX]
      rw [e57600]
      rw [jb_pos hz] at hT
      exact ⟨fun _ => hT, fun q => absurd (Int32.le_refl _) q⟩
    | succ n ih =>
      intro i hi hz x5
      have h2 := fun (hc : ¬ h 2 i = 0 → h 2 i = jimC h w a b i) => ih (i + 1) (by omega) (fun P hP => by
        by_cases e : P = i
        · rw [e]; exact hc
        · exact hz P (by omega))
      have hv : vp_in (nI i) 57600 := vp_in_nI (by omega) (by decide)
      have h31 : i < 2147483648 := by omega
      refine H3 60 _ _ _ _ _ _ ?_
      simp only [sg_X6_isLikeImage_0, sg_X6_isLikeImage_3, sg_X6_isLikeImage_43, sg_X6_isLikeImage_49, cd_X6_isLikeImage, jwp, o_ic, o_lc, o_iload, o_lload, o_aload, o_istore, o_lstore, o_astore, o_iinc, o_pop, o_dup, o_dup2, o_iadd, o_isub, o_imul, o_iand, o_ior, o_ishl, o_ladd, o_lmul, o_land, o_lor, o_idiv, o_irem, o_ineg, o_i2l, o_l2i, o_i2b, o_i2s, o_lushr, o_lshr, o_lshl, o_lcmp, o_ifeq, o_ifne, o_iflt, o_ifge, o_ifgt, o_ifle, o_iceq, o_icne, o_iclt, o_icge, o_icgt, o_icle, o_goto, o_tsw, jsw, o_lsw, jlk, o_getf, o_putf, o_putz, o_iald, o_zald, o_iast, o_zast, o_aald, o_alen, o_gets, o_zld, o_zlen, o_cpy, o_call, o_callV, o_ireti, o_iretz, o_lret, o_vret, jg, js, jkp, jkill, jsp, jcs, jfw, jov, Value.category, Option.toList_some, Option.toList_none, List.nil_append, List.cons_append, List.append_nil, Nat.reduceAdd, true_and, and_true, jb0, jb01, jb1, jem, true_or, or_true, Classical.not_not, forall_const, List.length_cons, List.length_nil, Nat.reduceLeDiff, Nat.zero_le, Nat.reduceLT, hX, kx_0_0 hX, kx_0_1 hX, kx_0_2 hX, kx_0_3 hX, kx_0_4 hX, kx_0_5 hX, kx_0_6 hX, kx_0_7 hX, kx_0_8 hX, kxo_0 hX, kx_1_0 hX, kx_1_1 hX, kx_1_2 hX, kx_1_3 hX, kxo_1 hX, kx_4_0 hX, kx_4_1 hX, kx_4_2 hX, kxo_4 hX, kx_19_0 hX, kx_19_1 hX, kx_19_2 hX, kx_19_3 hX, kx_19_4 hX, kxo_19 hX, kx_24_0 hX, kx_24_1 hX, kx_24_2 hX, kx_24_3 hX, kx_24_4 hX, kx_24_5 hX, kx_24_6 hX, kxo_24 hX, kxa_2 hX, kxa_3 hX, kxa_6 hX, kxa_7 hX, kxa_8 hX, kxa_9 hX, kxa_10 hX, kxa_18 hX, kxa_20 hX, kxa_21 hX, kxa_22 hX, kxa_23 hX, kxa_26 hX, kxa_27 hX, kxr_5 hX, kxr_11 hX, kxr_28 hX, hv, nI_clamp h31, T_X6_colourOfImage]
      rw [e57600, nI_1]
      refine ⟨fun c => absurd ((nI_leI (by omega) (by omega)).mp c) (by omega), fun _ => ⟨fun c => ?_, fun c => ⟨i, by omega, rfl, fun c2 => ?_, fun c2 => ?_⟩⟩⟩
      · exact h2 (fun z => absurd c z) _
      · exact h2 (fun _ => c2) _
      · rw [jb_neg (fun z => c2 (z i (by omega) c))] at hT
        exact hT
  refine H0 40 _ _ _ _ _ _ ?_
  simp only [sg_X6_isLikeImage_0, sg_X6_isLikeImage_3, sg_X6_isLikeImage_43, sg_X6_isLikeImage_49, cd_X6_isLikeImage, jwp, o_ic, o_lc, o_iload, o_lload, o_aload, o_istore, o_lstore, o_astore, o_iinc, o_pop, o_dup, o_dup2, o_iadd, o_isub, o_imul, o_iand, o_ior, o_ishl, o_ladd, o_lmul, o_land, o_lor, o_idiv, o_irem, o_ineg, o_i2l, o_l2i, o_i2b, o_i2s, o_lushr, o_lshr, o_lshl, o_lcmp, o_ifeq, o_ifne, o_iflt, o_ifge, o_ifgt, o_ifle, o_iceq, o_icne, o_iclt, o_icge, o_icgt, o_icle, o_goto, o_tsw, jsw, o_lsw, jlk, o_getf, o_putf, o_putz, o_iald, o_zald, o_iast, o_zast, o_aald, o_alen, o_gets, o_zld, o_zlen, o_cpy, o_call, o_callV, o_ireti, o_iretz, o_lret, o_vret, jg, js, jkp, jkill, jsp, jcs, jfw, jov, Value.category, Option.toList_some, Option.toList_none, List.nil_append, List.cons_append, List.append_nil, Nat.reduceAdd, true_and, and_true, jb0, jb01, jb1, jem, true_or, or_true, Classical.not_not, forall_const, List.length_cons, List.length_nil, Nat.reduceLeDiff, Nat.zero_le, Nat.reduceLT, hX, kx_0_0 hX, kx_0_1 hX, kx_0_2 hX, kx_0_3 hX, kx_0_4 hX, kx_0_5 hX, kx_0_6 hX, kx_0_7 hX, kx_0_8 hX, kxo_0 hX, kx_1_0 hX, kx_1_1 hX, kx_1_2 hX, kx_1_3 hX, kxo_1 hX, kx_4_0 hX, kx_4_1 hX, kx_4_2 hX, kxo_4 hX, kx_19_0 hX, kx_19_1 hX, kx_19_2 hX, kx_19_3 hX, kx_19_4 hX, kxo_19 hX, kx_24_0 hX, kx_24_1 hX, kx_24_2 hX, kx_24_3 hX, kx_24_4 hX, kx_24_5 hX, kx_24_6 hX, kxo_24 hX, kxa_2 hX, kxa_3 hX, kxa_6 hX, kxa_7 hX, kxa_8 hX, kxa_9 hX, kxa_10 hX, kxa_18 hX, kxa_20 hX, kxa_21 hX, kxa_22 hX, kxa_23 hX, kxa_26 hX, kxa_27 hX, kxr_5 hX, kxr_11 hX, kxr_28 hX]
  exact loop 57600 0 (by omega) (fun P hP => by omega) none
theorem m_X6_isLikeImage (l : Launch) : jHolds vwCl l yX6_isLikeImage wsX6_isLikeImage 4 91 0 0 T_X6_isLikeImage := by
  refine m_X6_isLikeImage_of l (fun G Q vs K h H0 H3 hT => ?_)
  unfold T_X6_isLikeImage at hT
  split at hT
  · obtain ⟨rfl, hT⟩ := hT
    exact ⟨Nat.le_of_ble_eq_true rfl, v_X6_isLikeImage hT H0 H3⟩
  · exact hT.elim

/-! X6_like -/
theorem jb_if {Q : jPost} {p : Prop} {K : List jK} {h : jM} (hq : Q (some (.int (jb p))) K h) : (¬ p → Q (some (.int 0)) K h) ∧ (p → Q (some (.int 1)) K h) :=
  ⟨fun c => by rw [jb_neg c] at hq; exact hq, fun c => by rw [jb_pos c] at hq; exact hq⟩
def T_X6_like : jT := fun vs K h Q => match vs with
  | [.ref r0, .int w, .int a, .int b] => r0 = 0 ∧ (jX K ∧ (¬ ((0 ≤ w ∧ w ≤ 4) ∧ (-300 ≤ a ∧ a ≤ 300) ∧ (-300 ≤ b ∧ b ≤ 300)) → Q (some (.int (-1))) K h) ∧ ((0 ≤ w ∧ w ≤ 4) ∧ (-300 ≤ a ∧ a ≤ 300) ∧ (-300 ≤ b ∧ b ≤ 300) → (h 1 0 = 1 ∧ ¬ w = 0 → Q (some (.int (-2))) K h) ∧ (¬ (h 1 0 = 1 ∧ ¬ w = 0) → Q (some (.int (jb (∀ P, P < 57600 → ¬ h 2 P = 0 → h 2 P = jimC h w a b P)))) K h)))
  | _ => False
def sg_X6_like_0 : jS := [(o_iload 1, 1), (o_ic (0), 1), (o_ic (4), 1), (o_call 3 T_X6_isWithin, 3), (o_ifeq 35, 3), (o_iload 2, 1), (o_ic (-300), 3), (o_ic (300), 3), (o_call 3 T_X6_isWithin, 3), (o_ifeq 35, 3), (o_iload 3, 1), (o_ic (-300), 3), (o_ic (300), 3), (o_call 3 T_X6_isWithin, 3), (o_ifne 37, 3), (o_ic (-1), 1), (o_ireti, 1)]
def sg_X6_like_35 : jS := [(o_ic (-1), 1), (o_ireti, 1)]
def sg_X6_like_37 : jS := [(o_aload 0, 1), (o_getf 6 0, 3), (o_getf 1 0, 3), (o_ic (1), 1), (o_icne 55, 3), (o_iload 1, 1), (o_ifeq 55, 3), (o_ic (-2), 2), (o_ireti, 1)]
def sg_X6_like_55 : jS := [(o_aload 0, 1), (o_iload 1, 1), (o_iload 2, 1), (o_iload 3, 1), (o_callV 4 6 T_X6_isLikeImage, 3), (o_ifeq 69, 3), (o_ic (1), 1), (o_goto 70, 3)]
def sg_X6_like_69 : jS := [(o_ic (0), 1), (o_ireti, 1)]
def sg_X6_like_70 : jS := [(o_ireti, 1)]
def cd_X6_like : Nat → jS := fun t => match t with
  | 35 => sg_X6_like_35
  | 37 => sg_X6_like_37
  | 55 => sg_X6_like_55
  | 69 => sg_X6_like_69
  | 70 => sg_X6_like_70
  | _ => []
theorem wl_X6_like_12 : Cond.fieldLink RX6 12 (TX6 0).1 (TX6 0).2.1 (TX6 0).2.2.1 ∈ wsX6_like := by decide +kernel
theorem wl_X6_like_161 : Cond.fieldLink RX6 161 (TX1 0).1 (TX1 0).2.1 (TX1 0).2.2.1 ∈ wsX6_like := by decide +kernel
theorem wi_X6_like_X1 : ∀ w ∈ u_ws RX1 TX1 4, w ∈ wsX6_like := by decide +kernel
theorem wi_X6_like_X6 : ∀ w ∈ u_ws RX6 TX6 9, w ∈ wsX6_like := by decide +kernel
def E_X6_like (Γ : jΓ) (Q : jPost) : Prop := Γ.2.2.2.2.2.2.2.2.2.2.1 = 4 ∧ Γ.2.2.2.2.2.2.2.2.2.2.2.1 = vwCl ∧ jC Γ cX6_like RX6 "like" (some .int) wsX6_like 5 116 0 0 ∧ jR Γ Q 0 0
theorem oo_X6_like_0 {Γ : jΓ} {Q : jPost} (E : E_X6_like Γ Q) : jSA Γ Q 0 (o_iload 1) 1 := so_iload_n E.2.2.1 rfl dX6_like_0
theorem oo_X6_like_1 {Γ : jΓ} {Q : jPost} (E : E_X6_like Γ Q) : jSA Γ Q 1 (o_ic (0)) 1 := so_iconst E.2.2.1 rfl dX6_like_1
theorem oo_X6_like_2 {Γ : jΓ} {Q : jPost} (E : E_X6_like Γ Q) : jSA Γ Q 2 (o_ic (4)) 1 := so_iconst E.2.2.1 rfl dX6_like_2
theorem oo_X6_like_3 {Γ : jΓ} {Q : jPost} (E : E_X6_like Γ Q) : jSA Γ Q 3 (o_call 3 T_X6_isWithin) 3 := so_callS E.2.2.1 gX6_like_X6_isWithin (by decide +kernel) rfl (by rw [E.2.1]; exact m_X6_isWithin _) (by decide) (by decide) dX6_like_3
theorem oo_X6_like_6 {Γ : jΓ} {Q : jPost} (E : E_X6_like Γ Q) : jSA Γ Q 6 (o_ifeq 35) 3 := so_ifeq E.2.2.1 (by decide) dX6_like_6
theorem oo_X6_like_9 {Γ : jΓ} {Q : jPost} (E : E_X6_like Γ Q) : jSA Γ Q 9 (o_iload 2) 1 := so_iload_n E.2.2.1 rfl dX6_like_9
theorem oo_X6_like_10 {Γ : jΓ} {Q : jPost} (E : E_X6_like Γ Q) : jSA Γ Q 10 (o_ic (-300)) 3 := so_sipush E.2.2.1 rfl dX6_like_10
theorem oo_X6_like_13 {Γ : jΓ} {Q : jPost} (E : E_X6_like Γ Q) : jSA Γ Q 13 (o_ic (300)) 3 := so_sipush E.2.2.1 rfl dX6_like_13
theorem oo_X6_like_16 {Γ : jΓ} {Q : jPost} (E : E_X6_like Γ Q) : jSA Γ Q 16 (o_call 3 T_X6_isWithin) 3 := so_callS E.2.2.1 gX6_like_X6_isWithin (by decide +kernel) rfl (by rw [E.2.1]; exact m_X6_isWithin _) (by decide) (by decide) dX6_like_16
theorem oo_X6_like_19 {Γ : jΓ} {Q : jPost} (E : E_X6_like Γ Q) : jSA Γ Q 19 (o_ifeq 35) 3 := so_ifeq E.2.2.1 (by decide) dX6_like_19
theorem oo_X6_like_22 {Γ : jΓ} {Q : jPost} (E : E_X6_like Γ Q) : jSA Γ Q 22 (o_iload 3) 1 := so_iload_n E.2.2.1 rfl dX6_like_22
theorem oo_X6_like_23 {Γ : jΓ} {Q : jPost} (E : E_X6_like Γ Q) : jSA Γ Q 23 (o_ic (-300)) 3 := so_sipush E.2.2.1 rfl dX6_like_23
theorem oo_X6_like_26 {Γ : jΓ} {Q : jPost} (E : E_X6_like Γ Q) : jSA Γ Q 26 (o_ic (300)) 3 := so_sipush E.2.2.1 rfl dX6_like_26
theorem oo_X6_like_29 {Γ : jΓ} {Q : jPost} (E : E_X6_like Γ Q) : jSA Γ Q 29 (o_call 3 T_X6_isWithin) 3 := so_callS E.2.2.1 gX6_like_X6_isWithin (by decide +kernel) rfl (by rw [E.2.1]; exact m_X6_isWithin _) (by decide) (by decide) dX6_like_29
theorem oo_X6_like_32 {Γ : jΓ} {Q : jPost} (E : E_X6_like Γ Q) : jSA Γ Q 32 (o_ifne 37) 3 := so_ifne E.2.2.1 (by decide) dX6_like_32
theorem oo_X6_like_35 {Γ : jΓ} {Q : jPost} (E : E_X6_like Γ Q) : jSA Γ Q 35 (o_ic (-1)) 1 := so_iconst E.2.2.1 rfl dX6_like_35
theorem oo_X6_like_36 {Γ : jΓ} {Q : jPost} (E : E_X6_like Γ Q) : jSA Γ Q 36 (o_ireti) 1 := so_ireti E.2.2.1 E.2.2.2 dX6_like_36
theorem oo_X6_like_37 {Γ : jΓ} {Q : jPost} (E : E_X6_like Γ Q) : jSA Γ Q 37 (o_aload 0) 1 := so_aload_n E.2.2.1 rfl dX6_like_37
theorem oo_X6_like_38 {Γ : jΓ} {Q : jPost} (E : E_X6_like Γ Q) : jSA Γ Q 38 (o_getf 6 0) 3 := so_getf (ci := 6) E.2.2.1 wi_X6_like_X6 (by rw [E.2.1]; rfl) 0 (by decide) wl_X6_like_12 dX6_like_38
theorem oo_X6_like_41 {Γ : jΓ} {Q : jPost} (E : E_X6_like Γ Q) : jSA Γ Q 41 (o_getf 1 0) 3 := so_getf (ci := 1) E.2.2.1 wi_X6_like_X1 (by rw [E.2.1]; rfl) 0 (by decide) wl_X6_like_161 dX6_like_41
theorem oo_X6_like_44 {Γ : jΓ} {Q : jPost} (E : E_X6_like Γ Q) : jSA Γ Q 44 (o_ic (1)) 1 := so_iconst E.2.2.1 rfl dX6_like_44
theorem oo_X6_like_45 {Γ : jΓ} {Q : jPost} (E : E_X6_like Γ Q) : jSA Γ Q 45 (o_icne 55) 3 := so_icne E.2.2.1 (by decide) dX6_like_45
theorem oo_X6_like_48 {Γ : jΓ} {Q : jPost} (E : E_X6_like Γ Q) : jSA Γ Q 48 (o_iload 1) 1 := so_iload_n E.2.2.1 rfl dX6_like_48
theorem oo_X6_like_49 {Γ : jΓ} {Q : jPost} (E : E_X6_like Γ Q) : jSA Γ Q 49 (o_ifeq 55) 3 := so_ifeq E.2.2.1 (by decide) dX6_like_49
theorem oo_X6_like_52 {Γ : jΓ} {Q : jPost} (E : E_X6_like Γ Q) : jSA Γ Q 52 (o_ic (-2)) 2 := so_bipush E.2.2.1 rfl dX6_like_52
theorem oo_X6_like_54 {Γ : jΓ} {Q : jPost} (E : E_X6_like Γ Q) : jSA Γ Q 54 (o_ireti) 1 := so_ireti E.2.2.1 E.2.2.2 dX6_like_54
theorem oo_X6_like_55 {Γ : jΓ} {Q : jPost} (E : E_X6_like Γ Q) : jSA Γ Q 55 (o_aload 0) 1 := so_aload_n E.2.2.1 rfl dX6_like_55
theorem oo_X6_like_56 {Γ : jΓ} {Q : jPost} (E : E_X6_like Γ Q) : jSA Γ Q 56 (o_iload 1) 1 := so_iload_n E.2.2.1 rfl dX6_like_56
theorem oo_X6_like_57 {Γ : jΓ} {Q : jPost} (E : E_X6_like Γ Q) : jSA Γ Q 57 (o_iload 2) 1 := so_iload_n E.2.2.1 rfl dX6_like_57
theorem oo_X6_like_58 {Γ : jΓ} {Q : jPost} (E : E_X6_like Γ Q) : jSA Γ Q 58 (o_iload 3) 1 := so_iload_n E.2.2.1 rfl dX6_like_58
theorem oo_X6_like_59 {Γ : jΓ} {Q : jPost} (E : E_X6_like Γ Q) : jSA Γ Q 59 (o_callV 4 6 T_X6_isLikeImage) 3 := so_callV E.2.2.1 (ci := 6) (by rw [E.2.1]; rfl) gX6_like_X6_isLikeImage (by decide +kernel) rfl (by rw [E.2.1]; exact m_X6_isLikeImage _) (by decide) (by decide) dX6_like_59
theorem oo_X6_like_62 {Γ : jΓ} {Q : jPost} (E : E_X6_like Γ Q) : jSA Γ Q 62 (o_ifeq 69) 3 := so_ifeq E.2.2.1 (by decide) dX6_like_62
theorem oo_X6_like_65 {Γ : jΓ} {Q : jPost} (E : E_X6_like Γ Q) : jSA Γ Q 65 (o_ic (1)) 1 := so_iconst E.2.2.1 rfl dX6_like_65
theorem oo_X6_like_66 {Γ : jΓ} {Q : jPost} (E : E_X6_like Γ Q) : jSA Γ Q 66 (o_goto 70) 3 := so_goto E.2.2.1 (by decide) dX6_like_66
theorem oo_X6_like_69 {Γ : jΓ} {Q : jPost} (E : E_X6_like Γ Q) : jSA Γ Q 69 (o_ic (0)) 1 := so_iconst E.2.2.1 rfl dX6_like_69
theorem oo_X6_like_70 {Γ : jΓ} {Q : jPost} (E : E_X6_like Γ Q) : jSA Γ Q 70 (o_ireti) 1 := so_ireti E.2.2.1 E.2.2.2 dX6_like_70
theorem ok_X6_like_0 {Γ : jΓ} {Q : jPost} (E : E_X6_like Γ Q) : jSS Γ Q 0 sg_X6_like_0 := ⟨oo_X6_like_0 E, oo_X6_like_1 E, oo_X6_like_2 E, oo_X6_like_3 E, oo_X6_like_6 E, oo_X6_like_9 E, oo_X6_like_10 E, oo_X6_like_13 E, oo_X6_like_16 E, oo_X6_like_19 E, oo_X6_like_22 E, oo_X6_like_23 E, oo_X6_like_26 E, oo_X6_like_29 E, oo_X6_like_32 E, oo_X6_like_35 E, oo_X6_like_36 E, trivial⟩
theorem ok_X6_like_35 {Γ : jΓ} {Q : jPost} (E : E_X6_like Γ Q) : jSS Γ Q 35 sg_X6_like_35 := ⟨oo_X6_like_35 E, oo_X6_like_36 E, trivial⟩
theorem ok_X6_like_37 {Γ : jΓ} {Q : jPost} (E : E_X6_like Γ Q) : jSS Γ Q 37 sg_X6_like_37 := ⟨oo_X6_like_37 E, oo_X6_like_38 E, oo_X6_like_41 E, oo_X6_like_44 E, oo_X6_like_45 E, oo_X6_like_48 E, oo_X6_like_49 E, oo_X6_like_52 E, oo_X6_like_54 E, trivial⟩
theorem ok_X6_like_55 {Γ : jΓ} {Q : jPost} (E : E_X6_like Γ Q) : jSS Γ Q 55 sg_X6_like_55 := ⟨oo_X6_like_55 E, oo_X6_like_56 E, oo_X6_like_57 E, oo_X6_like_58 E, oo_X6_like_59 E, oo_X6_like_62 E, oo_X6_like_65 E, oo_X6_like_66 E, trivial⟩
theorem ok_X6_like_69 {Γ : jΓ} {Q : jPost} (E : E_X6_like Γ Q) : jSS Γ Q 69 sg_X6_like_69 := ⟨oo_X6_like_69 E, oo_X6_like_70 E, trivial⟩
theorem ok_X6_like_70 {Γ : jΓ} {Q : jPost} (E : E_X6_like Γ Q) : jSS Γ Q 70 sg_X6_like_70 := ⟨oo_X6_like_70 E, trivial⟩
theorem okc_X6_like {Γ : jΓ} {Q : jPost} (E : E_X6_like Γ Q) (t : Nat) : jSS Γ Q t (cd_X6_like t) := by
  unfold cd_X6_like
  split
  · exact ok_X6_like_35 E
  · exact ok_X6_like_37 E
  · exact ok_X6_like_55 E
  · exact ok_X6_like_69 E
  · exact ok_X6_like_70 E
  · trivial
theorem m_X6_like_of (l : Launch) (hv : ∀ (G : jGt) (Q : jPost) (vs : List Value) (K : List jK) (h : jM), jHd cd_X6_like G Q sg_X6_like_0 0 → T_X6_like vs K h Q → (lg_sl vs).length ≤ 4 ∧ G 0 (jinit vs 4) [] K h 0 0) : jHolds vwCl l yX6_like wsX6_like 5 116 0 0 T_X6_like := by
  refine jMet (cc := cX6_like) (maxL := 4) (rt := (some .int)) (by decide +kernel) rfl (fun Γ Q vs K h hl hn hcl C hR hT => hv (jG Γ) Q vs K h ?_ hT)
  · exact fun n L st K h ce sl => jwp_ok (okc_X6_like ⟨hn, hcl, C, hR⟩) n sg_X6_like_0 0 (ok_X6_like_0 ⟨hn, hcl, C, hR⟩) L st K h ce sl
set_option maxHeartbeats 4000000 in
set_option maxRecDepth 100000 in
theorem v_X6_like {G : jGt} {Q : jPost} {K : List jK} {h : jM} {w : Int32} {a : Int32} {b : Int32} (hT : jX K ∧ (¬ ((0 ≤ w ∧ w ≤ 4) ∧ (-300 ≤ a ∧ a ≤ 300) ∧ (-300 ≤ b ∧ b ≤ 300)) → Q (some (.int (-1))) K h) ∧ ((0 ≤ w ∧ w ≤ 4) ∧ (-300 ≤ a ∧ a ≤ 300) ∧ (-300 ≤ b ∧ b ≤ 300) → (h 1 0 = 1 ∧ ¬ w = 0 → Q (some (.int (-2))) K h) ∧ (¬ (h 1 0 = 1 ∧ ¬ w = 0) → Q (some (.int (jb (∀ P, P < 57600 → ¬ h 2 P = 0 → h 2 P = jimC h w a b P)))) K h))) (H0 : jHd cd_X6_like G Q sg_X6_like_0 0) : G 0 [some (.ref 0), some (.int w), some (.int a), some (.int b)] [] K h 0 0 := by
  obtain ⟨hX, hT0, hT1⟩ := hT
  refine H0 60 _ _ _ _ _ _ ?_
  by_cases c1 : 0 ≤ w ∧ w ≤ 4
  · by_cases c2 : -300 ≤ a ∧ a ≤ 300
    · by_cases c3 : -300 ≤ b ∧ b ≤ 300
      · obtain ⟨hT1, hT2⟩ := hT1 ⟨c1, c2, c3⟩
        by_cases c4 : h 1 0 = 1
        · by_cases c5 : w = 0
          · have hT2 := hT2 (fun z => z.2 c5)
            subst c5
            simp only [sg_X6_like_0, sg_X6_like_35, sg_X6_like_37, sg_X6_like_55, sg_X6_like_69, sg_X6_like_70, cd_X6_like, jwp, o_ic, o_lc, o_iload, o_lload, o_aload, o_istore, o_lstore, o_astore, o_iinc, o_pop, o_dup, o_dup2, o_iadd, o_isub, o_imul, o_iand, o_ior, o_ishl, o_ladd, o_lmul, o_land, o_lor, o_idiv, o_irem, o_ineg, o_i2l, o_l2i, o_i2b, o_i2s, o_lushr, o_lshr, o_lshl, o_lcmp, o_ifeq, o_ifne, o_iflt, o_ifge, o_ifgt, o_ifle, o_iceq, o_icne, o_iclt, o_icge, o_icgt, o_icle, o_goto, o_tsw, jsw, o_lsw, jlk, o_getf, o_putf, o_putz, o_iald, o_zald, o_iast, o_zast, o_aald, o_alen, o_gets, o_zld, o_zlen, o_cpy, o_call, o_callV, o_ireti, o_iretz, o_lret, o_vret, jg, js, jkp, jkill, jsp, jcs, jfw, jov, Value.category, Option.toList_some, Option.toList_none, List.nil_append, List.cons_append, List.append_nil, Nat.reduceAdd, true_and, and_true, jb0, jb01, jb1, jem, true_or, or_true, Classical.not_not, forall_const, List.length_cons, List.length_nil, Nat.reduceLeDiff, Nat.zero_le, Nat.reduceLT, and_self, not_true_eq_false, not_false_eq_true, false_imp_iff, true_imp_iff, implies_true, and_false, false_and, or_false, false_or, hX, kx_0_0 hX, kx_0_1 hX, kx_0_2 hX, kx_0_3 hX, kx_0_4 hX, kx_0_5 hX, kx_0_6 hX, kx_0_7 hX, kx_0_8 hX, kxo_0 hX, kx_1_0 hX, kx_1_1 hX, kx_1_2 hX, kx_1_3 hX, kxo_1 hX, kx_4_0 hX, kx_4_1 hX, kx_4_2 hX, kxo_4 hX, kx_19_0 hX, kx_19_1 hX, kx_19_2 hX, kx_19_3 hX, kx_19_4 hX, kxo_19 hX, kx_24_0 hX, kx_24_1 hX, kx_24_2 hX, kx_24_3 hX, kx_24_4 hX, kx_24_5 hX, kx_24_6 hX, kxo_24 hX, kxa_2 hX, kxa_3 hX, kxa_6 hX, kxa_7 hX, kxa_8 hX, kxa_9 hX, kxa_10 hX, kxa_18 hX, kxa_20 hX, kxa_21 hX, kxa_22 hX, kxa_23 hX, kxa_26 hX, kxa_27 hX, kxr_5 hX, kxr_11 hX, kxr_28 hX, T_X6_isWithin, T_X6_isLikeImage, c1, c2, c3, c4]
            exact jb_if hT2
          · have hT1 := hT1 ⟨c4, c5⟩
            simp only [sg_X6_like_0, sg_X6_like_35, sg_X6_like_37, sg_X6_like_55, sg_X6_like_69, sg_X6_like_70, cd_X6_like, jwp, o_ic, o_lc, o_iload, o_lload, o_aload, o_istore, o_lstore, o_astore, o_iinc, o_pop, o_dup, o_dup2, o_iadd, o_isub, o_imul, o_iand, o_ior, o_ishl, o_ladd, o_lmul, o_land, o_lor, o_idiv, o_irem, o_ineg, o_i2l, o_l2i, o_i2b, o_i2s, o_lushr, o_lshr, o_lshl, o_lcmp, o_ifeq, o_ifne, o_iflt, o_ifge, o_ifgt, o_ifle, o_iceq, o_icne, o_iclt, o_icge, o_icgt, o_icle, o_goto, o_tsw, jsw, o_lsw, jlk, o_getf, o_putf, o_putz, o_iald, o_zald, o_iast, o_zast, o_aald, o_alen, o_gets, o_zld, o_zlen, o_cpy, o_call, o_callV, o_ireti, o_iretz, o_lret, o_vret, jg, js, jkp, jkill, jsp, jcs, jfw, jov, Value.category, Option.toList_some, Option.toList_none, List.nil_append, List.cons_append, List.append_nil, Nat.reduceAdd, true_and, and_true, jb0, jb01, jb1, jem, true_or, or_true, Classical.not_not, forall_const, List.length_cons, List.length_nil, Nat.reduceLeDiff, Nat.zero_le, Nat.reduceLT, and_self, not_true_eq_false, not_false_eq_true, false_imp_iff, true_imp_iff, implies_true, and_false, false_and, or_false, false_or, hX, kx_0_0 hX, kx_0_1 hX, kx_0_2 hX, kx_0_3 hX, kx_0_4 hX, kx_0_5 hX, kx_0_6 hX, kx_0_7 hX, kx_0_8 hX, kxo_0 hX, kx_1_0 hX, kx_1_1 hX, kx_1_2 hX, kx_1_3 hX, kxo_1 hX, kx_4_0 hX, kx_4_1 hX, kx_4_2 hX, kxo_4 hX, kx_19_0 hX, kx_19_1 hX, kx_19_2 hX, kx_19_3 hX, kx_19_4 hX, kxo_19 hX, kx_24_0 hX, kx_24_1 hX, kx_24_2 hX, kx_24_3 hX, kx_24_4 hX, kx_24_5 hX, kx_24_6 hX, kxo_24 hX, kxa_2 hX, kxa_3 hX, kxa_6 hX, kxa_7 hX, kxa_8 hX, kxa_9 hX, kxa_10 hX, kxa_18 hX, kxa_20 hX, kxa_21 hX, kxa_22 hX, kxa_23 hX, kxa_26 hX, kxa_27 hX, kxr_5 hX, kxr_11 hX, kxr_28 hX, T_X6_isWithin, T_X6_isLikeImage, c1, c2, c3, c4, c5]
            exact hT1
        · have hT2 := hT2 (fun z => c4 z.1)
          simp only [sg_X6_like_0, sg_X6_like_35, sg_X6_like_37, sg_X6_like_55, sg_X6_like_69, sg_X6_like_70, cd_X6_like, jwp, o_ic, o_lc, o_iload, o_lload, o_aload, o_istore, o_lstore, o_astore, o_iinc, o_pop, o_dup, o_dup2, o_iadd, o_isub, o_imul, o_iand, o_ior, o_ishl, o_ladd, o_lmul, o_land, o_lor, o_idiv, o_irem, o_ineg, o_i2l, o_l2i, o_i2b, o_i2s, o_lushr, o_lshr, o_lshl, o_lcmp, o_ifeq, o_ifne, o_iflt, o_ifge, o_ifgt, o_ifle, o_iceq, o_icne, o_iclt, o_icge, o_icgt, o_icle, o_goto, o_tsw, jsw, o_lsw, jlk, o_getf, o_putf, o_putz, o_iald, o_zald, o_iast, o_zast, o_aald, o_alen, o_gets, o_zld, o_zlen, o_cpy, o_call, o_callV, o_ireti, o_iretz, o_lret, o_vret, jg, js, jkp, jkill, jsp, jcs, jfw, jov, Value.category, Option.toList_some, Option.toList_none, List.nil_append, List.cons_append, List.append_nil, Nat.reduceAdd, true_and, and_true, jb0, jb01, jb1, jem, true_or, or_true, Classical.not_not, forall_const, List.length_cons, List.length_nil, Nat.reduceLeDiff, Nat.zero_le, Nat.reduceLT, and_self, not_true_eq_false, not_false_eq_true, false_imp_iff, true_imp_iff, implies_true, and_false, false_and, or_false, false_or, hX, kx_0_0 hX, kx_0_1 hX, kx_0_2 hX, kx_0_3 hX, kx_0_4 hX, kx_0_5 hX, kx_0_6 hX, kx_0_7 hX, kx_0_8 hX, kxo_0 hX, kx_1_0 hX, kx_1_1 hX, kx_1_2 hX, kx_1_3 hX, kxo_1 hX, kx_4_0 hX, kx_4_1 hX, kx_4_2 hX, kxo_4 hX, kx_19_0 hX, kx_19_1 hX, kx_19_2 hX, kx_19_3 hX, kx_19_4 hX, kxo_19 hX, kx_24_0 hX, kx_24_1 hX, kx_24_2 hX, kx_24_3 hX, kx_24_4 hX, kx_24_5 hX, kx_24_6 hX, kxo_24 hX, kxa_2 hX, kxa_3 hX, kxa_6 hX, kxa_7 hX, kxa_8 hX, kxa_9 hX, kxa_10 hX, kxa_18 hX, kxa_20 hX, kxa_21 hX, kxa_22 hX, kxa_23 hX, kxa_26 hX, kxa_27 hX, kxr_5 hX, kxr_11 hX, kxr_28 hX, T_X6_isWithin, T_X6_isLikeImage, c1, c2, c3, c4]
          exact jb_if hT2
      · have hT0 := hT0 (fun z => c3 z.2.2)
        simp only [sg_X6_like_0, sg_X6_like_35, sg_X6_like_37, sg_X6_like_55, sg_X6_like_69, sg_X6_like_70, cd_X6_like, jwp, o_ic, o_lc, o_iload, o_lload, o_aload, o_istore, o_lstore, o_astore, o_iinc, o_pop, o_dup, o_dup2, o_iadd, o_isub, o_imul, o_iand, o_ior, o_ishl, o_ladd, o_lmul, o_land, o_lor, o_idiv, o_irem, o_ineg, o_i2l, o_l2i, o_i2b, o_i2s, o_lushr, o_lshr, o_lshl, o_lcmp, o_ifeq, o_ifne, o_iflt, o_ifge, o_ifgt, o_ifle, o_iceq, o_icne, o_iclt, o_icge, o_icgt, o_icle, o_goto, o_tsw, jsw, o_lsw, jlk, o_getf, o_putf, o_putz, o_iald, o_zald, o_iast, o_zast, o_aald, o_alen, o_gets, o_zld, o_zlen, o_cpy, o_call, o_callV, o_ireti, o_iretz, o_lret, o_vret, jg, js, jkp, jkill, jsp, jcs, jfw, jov, Value.category, Option.toList_some, Option.toList_none, List.nil_append, List.cons_append, List.append_nil, Nat.reduceAdd, true_and, and_true, jb0, jb01, jb1, jem, true_or, or_true, Classical.not_not, forall_const, List.length_cons, List.length_nil, Nat.reduceLeDiff, Nat.zero_le, Nat.reduceLT, and_self, not_true_eq_false, not_false_eq_true, false_imp_iff, true_imp_iff, implies_true, and_false, false_and, or_false, false_or, hX, kx_0_0 hX, kx_0_1 hX, kx_0_2 hX, kx_0_3 hX, kx_0_4 hX, kx_0_5 hX, kx_0_6 hX, kx_0_7 hX, kx_0_8 hX, kxo_0 hX, kx_1_0 hX, kx_1_1 hX, kx_1_2 hX, kx_1_3 hX, kxo_1 hX, kx_4_0 hX, kx_4_1 hX, kx_4_2 hX, kxo_4 hX, kx_19_0 hX, kx_19_1 hX, kx_19_2 hX, kx_19_3 hX, kx_19_4 hX, kxo_19 hX, kx_24_0 hX, kx_24_1 hX, kx_24_2 hX, kx_24_3 hX, kx_24_4 hX, kx_24_5 hX, kx_24_6 hX, kxo_24 hX, kxa_2 hX, kxa_3 hX, kxa_6 hX, kxa_7 hX, kxa_8 hX, kxa_9 hX, kxa_10 hX, kxa_18 hX, kxa_20 hX, kxa_21 hX, kxa_22 hX, kxa_23 hX, kxa_26 hX, kxa_27 hX, kxr_5 hX, kxr_11 hX, kxr_28 hX, T_X6_isWithin, c1, c2, c3]
        exact hT0
    · have hT0 := hT0 (fun z => c2 z.2.1)
      simp only [sg_X6_like_0, sg_X6_like_35, sg_X6_like_37, sg_X6_like_55, sg_X6_like_69, sg_X6_like_70, cd_X6_like, jwp, o_ic, o_lc, o_iload, o_lload, o_aload, o_istore, o_lstore, o_astore, o_iinc, o_pop, o_dup, o_dup2, o_iadd, o_isub, o_imul, o_iand, o_ior, o_ishl, o_ladd, o_lmul, o_land, o_lor, o_idiv, o_irem, o_ineg, o_i2l, o_l2i, o_i2b, o_i2s, o_lushr, o_lshr, o_lshl, o_lcmp, o_ifeq, o_ifne, o_iflt, o_ifge, o_ifgt, o_ifle, o_iceq, o_icne, o_iclt, o_icge, o_icgt, o_icle, o_goto, o_tsw, jsw, o_lsw, jlk, o_getf, o_putf, o_putz, o_iald, o_zald, o_iast, o_zast, o_aald, o_alen, o_gets, o_zld, o_zlen, o_cpy, o_call, o_callV, o_ireti, o_iretz, o_lret, o_vret, jg, js, jkp, jkill, jsp, jcs, jfw, jov, Value.category, Option.toList_some, Option.toList_none, List.nil_append, List.cons_append, List.append_nil, Nat.reduceAdd, true_and, and_true, jb0, jb01, jb1, jem, true_or, or_true, Classical.not_not, forall_const, List.length_cons, List.length_nil, Nat.reduceLeDiff, Nat.zero_le, Nat.reduceLT, and_self, not_true_eq_false, not_false_eq_true, false_imp_iff, true_imp_iff, implies_true, and_false, false_and, or_false, false_or, hX, kx_0_0 hX, kx_0_1 hX, kx_0_2 hX, kx_0_3 hX, kx_0_4 hX, kx_0_5 hX, kx_0_6 hX, kx_0_7 hX, kx_0_8 hX, kxo_0 hX, kx_1_0 hX, kx_1_1 hX, kx_1_2 hX, kx_1_3 hX, kxo_1 hX, kx_4_0 hX, kx_4_1 hX, kx_4_2 hX, kxo_4 hX, kx_19_0 hX, kx_19_1 hX, kx_19_2 hX, kx_19_3 hX, kx_19_4 hX, kxo_19 hX, kx_24_0 hX, kx_24_1 hX, kx_24_2 hX, kx_24_3 hX, kx_24_4 hX, kx_24_5 hX, kx_24_6 hX, kxo_24 hX, kxa_2 hX, kxa_3 hX, kxa_6 hX, kxa_7 hX, kxa_8 hX, kxa_9 hX, kxa_10 hX, kxa_18 hX, kxa_20 hX, kxa_21 hX, kxa_22 hX, kxa_23 hX, kxa_26 hX, kxa_27 hX, kxr_5 hX, kxr_11 hX, kxr_28 hX, T_X6_isWithin, c1, c2]
      exact hT0
  · have hT0 := hT0 (fun z => c1 z.1)
    simp only [sg_X6_like_0, sg_X6_like_35, sg_X6_like_37, sg_X6_like_55, sg_X6_like_69, sg_X6_like_70, cd_X6_like, jwp, o_ic, o_lc, o_iload, o_lload, o_aload, o_istore, o_lstore, o_astore, o_iinc, o_pop, o_dup, o_dup2, o_iadd, o_isub, o_imul, o_iand, o_ior, o_ishl, o_ladd, o_lmul, o_land, o_lor, o_idiv, o_irem, o_ineg, o_i2l, o_l2i, o_i2b, o_i2s, o_lushr, o_lshr, o_lshl, o_lcmp, o_ifeq, o_ifne, o_iflt, o_ifge, o_ifgt, o_ifle, o_iceq, o_icne, o_iclt, o_icge, o_icgt, o_icle, o_goto, o_tsw, jsw, o_lsw, jlk, o_getf, o_putf, o_putz, o_iald, o_zald, o_iast, o_zast, o_aald, o_alen, o_gets, o_zld, o_zlen, o_cpy, o_call, o_callV, o_ireti, o_iretz, o_lret, o_vret, jg, js, jkp, jkill, jsp, jcs, jfw, jov, Value.category, Option.toList_some, Option.toList_none, List.nil_append, List.cons_append, List.append_nil, Nat.reduceAdd, true_and, and_true, jb0, jb01, jb1, jem, true_or, or_true, Classical.not_not, forall_const, List.length_cons, List.length_nil, Nat.reduceLeDiff, Nat.zero_le, Nat.reduceLT, and_self, not_true_eq_false, not_false_eq_true, false_imp_iff, true_imp_iff, implies_true, and_false, false_and, or_false, false_or, hX, kx_0_0 hX, kx_0_1 hX, kx_0_2 hX, kx_0_3 hX, kx_0_4 hX, kx_0_5 hX, kx_0_6 hX, kx_0_7 hX, kx_0_8 hX, kxo_0 hX, kx_1_0 hX, kx_1_1 hX, kx_1_2 hX, kx_1_3 hX, kxo_1 hX, kx_4_0 hX, kx_4_1 hX, kx_4_2 hX, kxo_4 hX, kx_19_0 hX, kx_19_1 hX, kx_19_2 hX, kx_19_3 hX, kx_19_4 hX, kxo_19 hX, kx_24_0 hX, kx_24_1 hX, kx_24_2 hX, kx_24_3 hX, kx_24_4 hX, kx_24_5 hX, kx_24_6 hX, kxo_24 hX, kxa_2 hX, kxa_3 hX, kxa_6 hX, kxa_7 hX, kxa_8 hX, kxa_9 hX, kxa_10 hX, kxa_18 hX, kxa_20 hX, kxa_21 hX, kxa_22 hX, kxa_23 hX, kxa_26 hX, kxa_27 hX, kxr_5 hX, kxr_11 hX, kxr_28 hX, T_X6_isWithin, c1]
    exact hT0
theorem m_X6_like (l : Launch) : jHolds vwCl l yX6_like wsX6_like 5 116 0 0 T_X6_like := by
  refine m_X6_like_of l (fun G Q vs K h H0 hT => ?_)
  unfold T_X6_like at hT
  split at hT
  · obtain ⟨rfl, hT⟩ := hT
    exact ⟨Nat.le_of_ble_eq_true rfl, v_X6_like hT H0⟩
  · exact hT.elim

/-! X6_isCarriedOn -/
/-- from a cell on, shift by shift, f has what g has one shift before (as long as one is on the floor, n times) -/
def jcarry (f g : Nat → Int32) (u v : Int32) : Nat → Int32 → Int32 → Prop
  | 0, _, _ => True
  | n + 1, x, y => onF x y → jcol f (x + u) (y + v) = jcol g x y ∧ jcarry f g u v n (x + u) (y + v)
def jcy (f g : Nat → Int32) (u v x y : Int32) : Prop := ∃ N, N = 240 ∧ jcarry f g u v N x y
def T_X6_isCarriedOn : jT := fun vs K h Q => match vs with
  | [.ref r0, .int x, .int y, .int u, .int v] => r0 = 0 ∧ (jX K ∧ Q (some (.int (jb (jcy (h 2) (h 26) u v x y)))) K h)
  | _ => False
def sg_X6_isCarriedOn_0 : jS := [(o_iload 1, 1), (o_istore 5, 2), (o_iload 2, 1), (o_istore 6, 2), (o_ic (0), 1), (o_istore 7, 2)]
def sg_X6_isCarriedOn_9 : jS := [(o_iload 7, 2), (o_ic (240), 3), (o_icge 83, 3), (o_iload 5, 2), (o_iload 6, 2), (o_call 2 T_X6_isOn, 3), (o_ifeq 83, 3), (o_aload 0, 1), (o_getf 6 5, 3), (o_getf 2 5, 3), (o_iload 5, 2), (o_iload 6, 2), (o_call 3 T_X6_colourIn, 3), (o_istore 8, 2)]
def sg_X6_isCarriedOn_43 : jS := [(o_iload 5, 2), (o_iload 3, 1), (o_iadd, 1), (o_istore 5, 2), (o_iload 6, 2), (o_iload 4, 2), (o_iadd, 1), (o_istore 6, 2)]
def sg_X6_isCarriedOn_56 : jS := [(o_aload 0, 1), (o_getf 6 0, 3), (o_getf 1 2, 3), (o_iload 5, 2), (o_iload 6, 2), (o_call 3 T_X6_colourIn, 3), (o_iload 8, 2), (o_iceq 77, 3), (o_ic (0), 1), (o_iretz, 1)]
def sg_X6_isCarriedOn_77 : jS := [(o_iinc 7 (1), 3), (o_goto 9, 3)]
def sg_X6_isCarriedOn_83 : jS := [(o_ic (1), 1), (o_iretz, 1)]
def cd_X6_isCarriedOn : Nat → jS := fun t => match t with
  | 77 => sg_X6_isCarriedOn_77
  | 83 => sg_X6_isCarriedOn_83
  | _ => []
theorem wl_X6_isCarriedOn_12 : Cond.fieldLink RX6 12 (TX6 0).1 (TX6 0).2.1 (TX6 0).2.2.1 ∈ wsX6_isCarriedOn := by decide +kernel
theorem wl_X6_isCarriedOn_44 : Cond.fieldLink RX6 44 (TX6 5).1 (TX6 5).2.1 (TX6 5).2.2.1 ∈ wsX6_isCarriedOn := by decide +kernel
theorem wl_X6_isCarriedOn_111 : Cond.fieldLink RX6 111 (TX1 2).1 (TX1 2).2.1 (TX1 2).2.2.1 ∈ wsX6_isCarriedOn := by decide +kernel
theorem wl_X6_isCarriedOn_205 : Cond.fieldLink RX6 205 (TX2 5).1 (TX2 5).2.1 (TX2 5).2.2.1 ∈ wsX6_isCarriedOn := by decide +kernel
theorem wi_X6_isCarriedOn_X1 : ∀ w ∈ u_ws RX1 TX1 4, w ∈ wsX6_isCarriedOn := by decide +kernel
theorem wi_X6_isCarriedOn_X2 : ∀ w ∈ u_ws RX2 TX2 7, w ∈ wsX6_isCarriedOn := by decide +kernel
theorem wi_X6_isCarriedOn_X6 : ∀ w ∈ u_ws RX6 TX6 9, w ∈ wsX6_isCarriedOn := by decide +kernel
def E_X6_isCarriedOn (Γ : jΓ) (Q : jPost) : Prop := Γ.2.2.2.2.2.2.2.2.2.2.1 = 9 ∧ Γ.2.2.2.2.2.2.2.2.2.2.2.1 = vwCl ∧ jC Γ cX6_isCarriedOn RX6 "isCarriedOn" (some .boolean) wsX6_isCarriedOn 3 65 0 0 ∧ jR Γ Q 0 0
theorem oo_X6_isCarriedOn_0 {Γ : jΓ} {Q : jPost} (E : E_X6_isCarriedOn Γ Q) : jSA Γ Q 0 (o_iload 1) 1 := so_iload_n E.2.2.1 rfl dX6_isCarriedOn_0
theorem oo_X6_isCarriedOn_1 {Γ : jΓ} {Q : jPost} (E : E_X6_isCarriedOn Γ Q) : jSA Γ Q 1 (o_istore 5) 2 := so_istore E.2.2.1 (by rw [E.1]; decide) dX6_isCarriedOn_1
theorem oo_X6_isCarriedOn_3 {Γ : jΓ} {Q : jPost} (E : E_X6_isCarriedOn Γ Q) : jSA Γ Q 3 (o_iload 2) 1 := so_iload_n E.2.2.1 rfl dX6_isCarriedOn_3
theorem oo_X6_isCarriedOn_4 {Γ : jΓ} {Q : jPost} (E : E_X6_isCarriedOn Γ Q) : jSA Γ Q 4 (o_istore 6) 2 := so_istore E.2.2.1 (by rw [E.1]; decide) dX6_isCarriedOn_4
theorem oo_X6_isCarriedOn_6 {Γ : jΓ} {Q : jPost} (E : E_X6_isCarriedOn Γ Q) : jSA Γ Q 6 (o_ic (0)) 1 := so_iconst E.2.2.1 rfl dX6_isCarriedOn_6
theorem oo_X6_isCarriedOn_7 {Γ : jΓ} {Q : jPost} (E : E_X6_isCarriedOn Γ Q) : jSA Γ Q 7 (o_istore 7) 2 := so_istore E.2.2.1 (by rw [E.1]; decide) dX6_isCarriedOn_7
theorem oo_X6_isCarriedOn_9 {Γ : jΓ} {Q : jPost} (E : E_X6_isCarriedOn Γ Q) : jSA Γ Q 9 (o_iload 7) 2 := so_iload E.2.2.1 dX6_isCarriedOn_9
theorem oo_X6_isCarriedOn_11 {Γ : jΓ} {Q : jPost} (E : E_X6_isCarriedOn Γ Q) : jSA Γ Q 11 (o_ic (240)) 3 := so_sipush E.2.2.1 rfl dX6_isCarriedOn_11
theorem oo_X6_isCarriedOn_14 {Γ : jΓ} {Q : jPost} (E : E_X6_isCarriedOn Γ Q) : jSA Γ Q 14 (o_icge 83) 3 := so_icge E.2.2.1 (by decide) dX6_isCarriedOn_14
theorem oo_X6_isCarriedOn_17 {Γ : jΓ} {Q : jPost} (E : E_X6_isCarriedOn Γ Q) : jSA Γ Q 17 (o_iload 5) 2 := so_iload E.2.2.1 dX6_isCarriedOn_17
theorem oo_X6_isCarriedOn_19 {Γ : jΓ} {Q : jPost} (E : E_X6_isCarriedOn Γ Q) : jSA Γ Q 19 (o_iload 6) 2 := so_iload E.2.2.1 dX6_isCarriedOn_19
theorem oo_X6_isCarriedOn_21 {Γ : jΓ} {Q : jPost} (E : E_X6_isCarriedOn Γ Q) : jSA Γ Q 21 (o_call 2 T_X6_isOn) 3 := so_callS E.2.2.1 gX6_isCarriedOn_X6_isOn (by decide +kernel) rfl (by rw [E.2.1]; exact m_X6_isOn _) (by decide) (by decide) dX6_isCarriedOn_21
theorem oo_X6_isCarriedOn_24 {Γ : jΓ} {Q : jPost} (E : E_X6_isCarriedOn Γ Q) : jSA Γ Q 24 (o_ifeq 83) 3 := so_ifeq E.2.2.1 (by decide) dX6_isCarriedOn_24
theorem oo_X6_isCarriedOn_27 {Γ : jΓ} {Q : jPost} (E : E_X6_isCarriedOn Γ Q) : jSA Γ Q 27 (o_aload 0) 1 := so_aload_n E.2.2.1 rfl dX6_isCarriedOn_27
theorem oo_X6_isCarriedOn_28 {Γ : jΓ} {Q : jPost} (E : E_X6_isCarriedOn Γ Q) : jSA Γ Q 28 (o_getf 6 5) 3 := so_getf (ci := 6) E.2.2.1 wi_X6_isCarriedOn_X6 (by rw [E.2.1]; rfl) 5 (by decide) wl_X6_isCarriedOn_44 dX6_isCarriedOn_28
theorem oo_X6_isCarriedOn_31 {Γ : jΓ} {Q : jPost} (E : E_X6_isCarriedOn Γ Q) : jSA Γ Q 31 (o_getf 2 5) 3 := so_getf (ci := 2) E.2.2.1 wi_X6_isCarriedOn_X2 (by rw [E.2.1]; rfl) 5 (by decide) wl_X6_isCarriedOn_205 dX6_isCarriedOn_31
theorem oo_X6_isCarriedOn_34 {Γ : jΓ} {Q : jPost} (E : E_X6_isCarriedOn Γ Q) : jSA Γ Q 34 (o_iload 5) 2 := so_iload E.2.2.1 dX6_isCarriedOn_34
theorem oo_X6_isCarriedOn_36 {Γ : jΓ} {Q : jPost} (E : E_X6_isCarriedOn Γ Q) : jSA Γ Q 36 (o_iload 6) 2 := so_iload E.2.2.1 dX6_isCarriedOn_36
theorem oo_X6_isCarriedOn_38 {Γ : jΓ} {Q : jPost} (E : E_X6_isCarriedOn Γ Q) : jSA Γ Q 38 (o_call 3 T_X6_colourIn) 3 := so_callS E.2.2.1 gX6_isCarriedOn_X6_colourIn (by decide +kernel) rfl (by rw [E.2.1]; exact m_X6_colourIn _) (by decide) (by decide) dX6_isCarriedOn_38
theorem oo_X6_isCarriedOn_41 {Γ : jΓ} {Q : jPost} (E : E_X6_isCarriedOn Γ Q) : jSA Γ Q 41 (o_istore 8) 2 := so_istore E.2.2.1 (by rw [E.1]; decide) dX6_isCarriedOn_41
theorem oo_X6_isCarriedOn_43 {Γ : jΓ} {Q : jPost} (E : E_X6_isCarriedOn Γ Q) : jSA Γ Q 43 (o_iload 5) 2 := so_iload E.2.2.1 dX6_isCarriedOn_43
theorem oo_X6_isCarriedOn_45 {Γ : jΓ} {Q : jPost} (E : E_X6_isCarriedOn Γ Q) : jSA Γ Q 45 (o_iload 3) 1 := so_iload_n E.2.2.1 rfl dX6_isCarriedOn_45
theorem oo_X6_isCarriedOn_46 {Γ : jΓ} {Q : jPost} (E : E_X6_isCarriedOn Γ Q) : jSA Γ Q 46 (o_iadd) 1 := so_iadd E.2.2.1 dX6_isCarriedOn_46
theorem oo_X6_isCarriedOn_47 {Γ : jΓ} {Q : jPost} (E : E_X6_isCarriedOn Γ Q) : jSA Γ Q 47 (o_istore 5) 2 := so_istore E.2.2.1 (by rw [E.1]; decide) dX6_isCarriedOn_47
theorem oo_X6_isCarriedOn_49 {Γ : jΓ} {Q : jPost} (E : E_X6_isCarriedOn Γ Q) : jSA Γ Q 49 (o_iload 6) 2 := so_iload E.2.2.1 dX6_isCarriedOn_49
theorem oo_X6_isCarriedOn_51 {Γ : jΓ} {Q : jPost} (E : E_X6_isCarriedOn Γ Q) : jSA Γ Q 51 (o_iload 4) 2 := so_iload E.2.2.1 dX6_isCarriedOn_51
theorem oo_X6_isCarriedOn_53 {Γ : jΓ} {Q : jPost} (E : E_X6_isCarriedOn Γ Q) : jSA Γ Q 53 (o_iadd) 1 := so_iadd E.2.2.1 dX6_isCarriedOn_53
theorem oo_X6_isCarriedOn_54 {Γ : jΓ} {Q : jPost} (E : E_X6_isCarriedOn Γ Q) : jSA Γ Q 54 (o_istore 6) 2 := so_istore E.2.2.1 (by rw [E.1]; decide) dX6_isCarriedOn_54
theorem oo_X6_isCarriedOn_56 {Γ : jΓ} {Q : jPost} (E : E_X6_isCarriedOn Γ Q) : jSA Γ Q 56 (o_aload 0) 1 := so_aload_n E.2.2.1 rfl dX6_isCarriedOn_56
theorem oo_X6_isCarriedOn_57 {Γ : jΓ} {Q : jPost} (E : E_X6_isCarriedOn Γ Q) : jSA Γ Q 57 (o_getf 6 0) 3 := so_getf (ci := 6) E.2.2.1 wi_X6_isCarriedOn_X6 (by rw [E.2.1]; rfl) 0 (by decide) wl_X6_isCarriedOn_12 dX6_isCarriedOn_57
theorem oo_X6_isCarriedOn_60 {Γ : jΓ} {Q : jPost} (E : E_X6_isCarriedOn Γ Q) : jSA Γ Q 60 (o_getf 1 2) 3 := so_getf (ci := 1) E.2.2.1 wi_X6_isCarriedOn_X1 (by rw [E.2.1]; rfl) 2 (by decide) wl_X6_isCarriedOn_111 dX6_isCarriedOn_60
theorem oo_X6_isCarriedOn_63 {Γ : jΓ} {Q : jPost} (E : E_X6_isCarriedOn Γ Q) : jSA Γ Q 63 (o_iload 5) 2 := so_iload E.2.2.1 dX6_isCarriedOn_63
theorem oo_X6_isCarriedOn_65 {Γ : jΓ} {Q : jPost} (E : E_X6_isCarriedOn Γ Q) : jSA Γ Q 65 (o_iload 6) 2 := so_iload E.2.2.1 dX6_isCarriedOn_65
theorem oo_X6_isCarriedOn_67 {Γ : jΓ} {Q : jPost} (E : E_X6_isCarriedOn Γ Q) : jSA Γ Q 67 (o_call 3 T_X6_colourIn) 3 := so_callS E.2.2.1 gX6_isCarriedOn_X6_colourIn (by decide +kernel) rfl (by rw [E.2.1]; exact m_X6_colourIn _) (by decide) (by decide) dX6_isCarriedOn_67
theorem oo_X6_isCarriedOn_70 {Γ : jΓ} {Q : jPost} (E : E_X6_isCarriedOn Γ Q) : jSA Γ Q 70 (o_iload 8) 2 := so_iload E.2.2.1 dX6_isCarriedOn_70
theorem oo_X6_isCarriedOn_72 {Γ : jΓ} {Q : jPost} (E : E_X6_isCarriedOn Γ Q) : jSA Γ Q 72 (o_iceq 77) 3 := so_iceq E.2.2.1 (by decide) dX6_isCarriedOn_72
theorem oo_X6_isCarriedOn_75 {Γ : jΓ} {Q : jPost} (E : E_X6_isCarriedOn Γ Q) : jSA Γ Q 75 (o_ic (0)) 1 := so_iconst E.2.2.1 rfl dX6_isCarriedOn_75
theorem oo_X6_isCarriedOn_76 {Γ : jΓ} {Q : jPost} (E : E_X6_isCarriedOn Γ Q) : jSA Γ Q 76 (o_iretz) 1 := so_iretz E.2.2.1 E.2.2.2 dX6_isCarriedOn_76
theorem oo_X6_isCarriedOn_77 {Γ : jΓ} {Q : jPost} (E : E_X6_isCarriedOn Γ Q) : jSA Γ Q 77 (o_iinc 7 (1)) 3 := so_iinc E.2.2.1 rfl (by rw [E.1]; decide) dX6_isCarriedOn_77
theorem oo_X6_isCarriedOn_80 {Γ : jΓ} {Q : jPost} (E : E_X6_isCarriedOn Γ Q) : jSA Γ Q 80 (o_goto 9) 3 := so_goto E.2.2.1 (by decide) dX6_isCarriedOn_80
theorem oo_X6_isCarriedOn_83 {Γ : jΓ} {Q : jPost} (E : E_X6_isCarriedOn Γ Q) : jSA Γ Q 83 (o_ic (1)) 1 := so_iconst E.2.2.1 rfl dX6_isCarriedOn_83
theorem oo_X6_isCarriedOn_84 {Γ : jΓ} {Q : jPost} (E : E_X6_isCarriedOn Γ Q) : jSA Γ Q 84 (o_iretz) 1 := so_iretz E.2.2.1 E.2.2.2 dX6_isCarriedOn_84
theorem ok_X6_isCarriedOn_0 {Γ : jΓ} {Q : jPost} (E : E_X6_isCarriedOn Γ Q) : jSS Γ Q 0 sg_X6_isCarriedOn_0 := ⟨oo_X6_isCarriedOn_0 E, oo_X6_isCarriedOn_1 E, oo_X6_isCarriedOn_3 E, oo_X6_isCarriedOn_4 E, oo_X6_isCarriedOn_6 E, oo_X6_isCarriedOn_7 E, trivial⟩
theorem ok_X6_isCarriedOn_9 {Γ : jΓ} {Q : jPost} (E : E_X6_isCarriedOn Γ Q) : jSS Γ Q 9 sg_X6_isCarriedOn_9 := ⟨oo_X6_isCarriedOn_9 E, oo_X6_isCarriedOn_11 E, oo_X6_isCarriedOn_14 E, oo_X6_isCarriedOn_17 E, oo_X6_isCarriedOn_19 E, oo_X6_isCarriedOn_21 E, oo_X6_isCarriedOn_24 E, oo_X6_isCarriedOn_27 E, oo_X6_isCarriedOn_28 E, oo_X6_isCarriedOn_31 E, oo_X6_isCarriedOn_34 E, oo_X6_isCarriedOn_36 E, oo_X6_isCarriedOn_38 E, oo_X6_isCarriedOn_41 E, trivial⟩
theorem ok_X6_isCarriedOn_43 {Γ : jΓ} {Q : jPost} (E : E_X6_isCarriedOn Γ Q) : jSS Γ Q 43 sg_X6_isCarriedOn_43 := ⟨oo_X6_isCarriedOn_43 E, oo_X6_isCarriedOn_45 E, oo_X6_isCarriedOn_46 E, oo_X6_isCarriedOn_47 E, oo_X6_isCarriedOn_49 E, oo_X6_isCarriedOn_51 E, oo_X6_isCarriedOn_53 E, oo_X6_isCarriedOn_54 E, trivial⟩
theorem ok_X6_isCarriedOn_56 {Γ : jΓ} {Q : jPost} (E : E_X6_isCarriedOn Γ Q) : jSS Γ Q 56 sg_X6_isCarriedOn_56 := ⟨oo_X6_isCarriedOn_56 E, oo_X6_isCarriedOn_57 E, oo_X6_isCarriedOn_60 E, oo_X6_isCarriedOn_63 E, oo_X6_isCarriedOn_65 E, oo_X6_isCarriedOn_67 E, oo_X6_isCarriedOn_70 E, oo_X6_isCarriedOn_72 E, oo_X6_isCarriedOn_75 E, oo_X6_isCarriedOn_76 E, trivial⟩
theorem ok_X6_isCarriedOn_77 {Γ : jΓ} {Q : jPost} (E : E_X6_isCarriedOn Γ Q) : jSS Γ Q 77 sg_X6_isCarriedOn_77 := ⟨oo_X6_isCarriedOn_77 E, oo_X6_isCarriedOn_80 E, trivial⟩
theorem ok_X6_isCarriedOn_83 {Γ : jΓ} {Q : jPost} (E : E_X6_isCarriedOn Γ Q) : jSS Γ Q 83 sg_X6_isCarriedOn_83 := ⟨oo_X6_isCarriedOn_83 E, oo_X6_isCarriedOn_84 E, trivial⟩
theorem okc_X6_isCarriedOn {Γ : jΓ} {Q : jPost} (E : E_X6_isCarriedOn Γ Q) (t : Nat) : jSS Γ Q t (cd_X6_isCarriedOn t) := by
  unfold cd_X6_isCarriedOn
  split
  · exact ok_X6_isCarriedOn_77 E
  · exact ok_X6_isCarriedOn_83 E
  · trivial
theorem m_X6_isCarriedOn_of (l : Launch) (hv : ∀ (G : jGt) (Q : jPost) (vs : List Value) (K : List jK) (h : jM), jHd cd_X6_isCarriedOn G Q sg_X6_isCarriedOn_0 0 → jHd cd_X6_isCarriedOn G Q sg_X6_isCarriedOn_9 9 → jHd cd_X6_isCarriedOn G Q sg_X6_isCarriedOn_43 43 → jHd cd_X6_isCarriedOn G Q sg_X6_isCarriedOn_56 56 → T_X6_isCarriedOn vs K h Q → (lg_sl vs).length ≤ 9 ∧ G 0 (jinit vs 9) [] K h 0 0) : jHolds vwCl l yX6_isCarriedOn wsX6_isCarriedOn 3 65 0 0 T_X6_isCarriedOn := by
  refine jMet (cc := cX6_isCarriedOn) (maxL := 9) (rt := (some .boolean)) (by decide +kernel) rfl (fun Γ Q vs K h hl hn hcl C hR hT => hv (jG Γ) Q vs K h ?_ ?_ ?_ ?_ hT)
  · exact fun n L st K h ce sl => jwp_ok (okc_X6_isCarriedOn ⟨hn, hcl, C, hR⟩) n sg_X6_isCarriedOn_0 0 (ok_X6_isCarriedOn_0 ⟨hn, hcl, C, hR⟩) L st K h ce sl
  · exact fun n L st K h ce sl => jwp_ok (okc_X6_isCarriedOn ⟨hn, hcl, C, hR⟩) n sg_X6_isCarriedOn_9 9 (ok_X6_isCarriedOn_9 ⟨hn, hcl, C, hR⟩) L st K h ce sl
  · exact fun n L st K h ce sl => jwp_ok (okc_X6_isCarriedOn ⟨hn, hcl, C, hR⟩) n sg_X6_isCarriedOn_43 43 (ok_X6_isCarriedOn_43 ⟨hn, hcl, C, hR⟩) L st K h ce sl
  · exact fun n L st K h ce sl => jwp_ok (okc_X6_isCarriedOn ⟨hn, hcl, C, hR⟩) n sg_X6_isCarriedOn_56 56 (ok_X6_isCarriedOn_56 ⟨hn, hcl, C, hR⟩) L st K h ce sl
set_option maxHeartbeats 4000000 in
set_option maxRecDepth 100000 in
theorem v_X6_isCarriedOn {G : jGt} {Q : jPost} {K : List jK} {h : jM} {x : Int32} {y : Int32} {u : Int32} {v : Int32} (hT : jX K ∧ Q (some (.int (jb (jcy (h 2) (h 26) u v x y)))) K h) (H0 : jHd cd_X6_isCarriedOn G Q sg_X6_isCarriedOn_0 0) (H9 : jHd cd_X6_isCarriedOn G Q sg_X6_isCarriedOn_9 9) (H43 : jHd cd_X6_isCarriedOn G Q sg_X6_isCarriedOn_43 43) (H56 : jHd cd_X6_isCarriedOn G Q sg_X6_isCarriedOn_56 56) : G 0 [some (.ref 0), some (.int x), some (.int y), some (.int u), some (.int v), none, none, none, none] [] K h 0 0 := by
  obtain ⟨hX, hT⟩ := hT
  obtain ⟨N, hN⟩ : ∃ N, N = 240 := ⟨_, rfl⟩
  have eN : jcy (h 2) (h 26) u v x y = jcarry (h 2) (h 26) u v N x y := propext ⟨fun z => by obtain ⟨M, hM, z⟩ := z; rw [hN, ← hM]; exact z, fun z => ⟨N, hN, z⟩⟩
  rw [eN] at hT
  have loop : ∀ n i, i + n = N → ∀ (x' y' : Int32) x8, Q (some (.int (jb (jcarry (h 2) (h 26) u v n x' y')))) K h → G 9 [some (.ref 0), some (.int x), some (.int y), some (.int u), some (.int v), some (.int x'), some (.int y'), some (.int (nI i)), x8] [] K h 0 0 := by
    intro n
    induction n with
    | zero =>
      intro i hi x' y' x8 hq
      have : i = 240 := by omega
      subst this
      clear eN hT
      refine H9 60 _ _ _ _ _ _ ?_
      simp only [sg_X6_isCarriedOn_0, sg_X6_isCarriedOn_9, sg_X6_isCarriedOn_43, sg_X6_isCarriedOn_56, sg_X6_isCarriedOn_77, sg_X6_isCarriedOn_83, cd_X6_isCarriedOn, jwp, o_ic, o_lc, o_iload, o_lload, o_aload, o_istore, o_lstore, o_astore, o_iinc, o_pop, o_dup, o_dup2, o_iadd, o_isub, o_imul, o_iand, o_ior, o_ishl, o_ladd, o_lmul, o_land, o_lor, o_idiv, o_irem, o_ineg, o_i2l, o_l2i, o_i2b, o_i2s, o_lushr, o_lshr, o_lshl, o_lcmp, o_ifeq, o_ifne, o_iflt, o_ifge, o_ifgt, o_ifle, o_iceq, o_icne, o_iclt, o_icge, o_icgt, o_icle, o_goto, o_tsw, jsw, o_lsw, jlk, o_getf, o_putf, o_putz, o_iald, o_zald, o_iast, o_zast, o_aald, o_alen, o_gets, o_zld, o_zlen, o_cpy, o_call, o_callV, o_ireti, o_iretz, o_lret, o_vret, jg, js, jkp, jkill, jsp, jcs, jfw, jov, Value.category, Option.toList_some, Option.toList_none, List.nil_append, List.cons_append, List.append_nil, Nat.reduceAdd, true_and, and_true, jb0, jb01, jb1, jem, true_or, or_true, Classical.not_not, forall_const, List.length_cons, List.length_nil, Nat.reduceLeDiff, Nat.zero_le, Nat.reduceLT, hX, kx_0_0 hX, kx_0_1 hX, kx_0_2 hX, kx_0_3 hX, kx_0_4 hX, kx_0_5 hX, kx_0_6 hX, kx_0_7 hX, kx_0_8 hX, kxo_0 hX, kx_1_0 hX, kx_1_1 hX, kx_1_2 hX, kx_1_3 hX, kxo_1 hX, kx_4_0 hX, kx_4_1 hX, kx_4_2 hX, kxo_4 hX, kx_19_0 hX, kx_19_1 hX, kx_19_2 hX, kx_19_3 hX, kx_19_4 hX, kxo_19 hX, kx_24_0 hX, kx_24_1 hX, kx_24_2 hX, kx_24_3 hX, kx_24_4 hX, kx_24_5 hX, kx_24_6 hX, kxo_24 hX, kxa_2 hX, kxa_3 hX, kxa_6 hX, kxa_7 hX, kxa_8 hX, kxa_9 hX, kxa_10 hX, kxa_18 hX, kxa_20 hX, kxa_21 hX, kxa_22 hX, kxa_23 hX, kxa_26 hX, kxa_27 hX, kxr_5 hX, kxr_11 hX, kxr_28 hX]
      rw [e240]
      rw [jb_pos (show jcarry (h 2) (h 26) u v 0 x' y' from trivial)] at hq
      exact ⟨fun _ => hq, fun q => absurd (Int32.le_refl _) q⟩
    | succ n ih =>
      intro i hi x' y' x8 hq
      refine H9 60 _ _ _ _ _ _ ?_
      simp only [sg_X6_isCarriedOn_0, sg_X6_isCarriedOn_9, sg_X6_isCarriedOn_43, sg_X6_isCarriedOn_56, sg_X6_isCarriedOn_77, sg_X6_isCarriedOn_83, cd_X6_isCarriedOn, jwp, o_ic, o_lc, o_iload, o_lload, o_aload, o_istore, o_lstore, o_astore, o_iinc, o_pop, o_dup, o_dup2, o_iadd, o_isub, o_imul, o_iand, o_ior, o_ishl, o_ladd, o_lmul, o_land, o_lor, o_idiv, o_irem, o_ineg, o_i2l, o_l2i, o_i2b, o_i2s, o_lushr, o_lshr, o_lshl, o_lcmp, o_ifeq, o_ifne, o_iflt, o_ifge, o_ifgt, o_ifle, o_iceq, o_icne, o_iclt, o_icge, o_icgt, o_icle, o_goto, o_tsw, jsw, o_lsw, jlk, o_getf, o_putf, o_putz, o_iald, o_zald, o_iast, o_zast, o_aald, o_alen, o_gets, o_zld, o_zlen, o_cpy, o_call, o_callV, o_ireti, o_iretz, o_lret, o_vret, jg, js, jkp, jkill, jsp, jcs, jfw, jov, Value.category, Option.toList_some, Option.toList_none, List.nil_append, List.cons_append, List.append_nil, Nat.reduceAdd, true_and, and_true, jb0, jb01, jb1, jem, true_or, or_true, Classical.not_not, forall_const, List.length_cons, List.length_nil, Nat.reduceLeDiff, Nat.zero_le, Nat.reduceLT, hX, kx_0_0 hX, kx_0_1 hX, kx_0_2 hX, kx_0_3 hX, kx_0_4 hX, kx_0_5 hX, kx_0_6 hX, kx_0_7 hX, kx_0_8 hX, kxo_0 hX, kx_1_0 hX, kx_1_1 hX, kx_1_2 hX, kx_1_3 hX, kxo_1 hX, kx_4_0 hX, kx_4_1 hX, kx_4_2 hX, kxo_4 hX, kx_19_0 hX, kx_19_1 hX, kx_19_2 hX, kx_19_3 hX, kx_19_4 hX, kxo_19 hX, kx_24_0 hX, kx_24_1 hX, kx_24_2 hX, kx_24_3 hX, kx_24_4 hX, kx_24_5 hX, kx_24_6 hX, kxo_24 hX, kxa_2 hX, kxa_3 hX, kxa_6 hX, kxa_7 hX, kxa_8 hX, kxa_9 hX, kxa_10 hX, kxa_18 hX, kxa_20 hX, kxa_21 hX, kxa_22 hX, kxa_23 hX, kxa_26 hX, kxa_27 hX, kxr_5 hX, kxr_11 hX, kxr_28 hX, T_X6_isOn, T_X6_colourIn]
      rw [e240]
      refine ⟨fun c => absurd ((nI_leI (by omega) (by omega)).mp c) (by omega), fun _ => ⟨fun c => ?_, fun c => ?_⟩⟩
      rotate_left
      have e0 : jcarry (h 2) (h 26) u v (n + 1) x' y' = (jcol (h 2) (x' + u) (y' + v) = jcol (h 26) x' y' ∧ jcarry (h 2) (h 26) u v n (x' + u) (y' + v)) := propext ⟨fun z => z c, fun z _ => z⟩
      rw [e0] at hq
      clear e0
      generalize jcol (h 26) x' y' = du at hq ⊢
      refine H43 60 _ _ _ _ _ _ ?_
      simp only [sg_X6_isCarriedOn_0, sg_X6_isCarriedOn_9, sg_X6_isCarriedOn_43, sg_X6_isCarriedOn_56, sg_X6_isCarriedOn_77, sg_X6_isCarriedOn_83, cd_X6_isCarriedOn, jwp, o_ic, o_lc, o_iload, o_lload, o_aload, o_istore, o_lstore, o_astore, o_iinc, o_pop, o_dup, o_dup2, o_iadd, o_isub, o_imul, o_iand, o_ior, o_ishl, o_ladd, o_lmul, o_land, o_lor, o_idiv, o_irem, o_ineg, o_i2l, o_l2i, o_i2b, o_i2s, o_lushr, o_lshr, o_lshl, o_lcmp, o_ifeq, o_ifne, o_iflt, o_ifge, o_ifgt, o_ifle, o_iceq, o_icne, o_iclt, o_icge, o_icgt, o_icle, o_goto, o_tsw, jsw, o_lsw, jlk, o_getf, o_putf, o_putz, o_iald, o_zald, o_iast, o_zast, o_aald, o_alen, o_gets, o_zld, o_zlen, o_cpy, o_call, o_callV, o_ireti, o_iretz, o_lret, o_vret, jg, js, jkp, jkill, jsp, jcs, jfw, jov, Value.category, Option.toList_some, Option.toList_none, List.nil_append, List.cons_append, List.append_nil, Nat.reduceAdd, true_and, and_true, jb0, jb01, jb1, jem, true_or, or_true, Classical.not_not, forall_const, List.length_cons, List.length_nil, Nat.reduceLeDiff, Nat.zero_le, Nat.reduceLT, hX, kx_0_0 hX, kx_0_1 hX, kx_0_2 hX, kx_0_3 hX, kx_0_4 hX, kx_0_5 hX, kx_0_6 hX, kx_0_7 hX, kx_0_8 hX, kxo_0 hX, kx_1_0 hX, kx_1_1 hX, kx_1_2 hX, kx_1_3 hX, kxo_1 hX, kx_4_0 hX, kx_4_1 hX, kx_4_2 hX, kxo_4 hX, kx_19_0 hX, kx_19_1 hX, kx_19_2 hX, kx_19_3 hX, kx_19_4 hX, kxo_19 hX, kx_24_0 hX, kx_24_1 hX, kx_24_2 hX, kx_24_3 hX, kx_24_4 hX, kx_24_5 hX, kx_24_6 hX, kxo_24 hX, kxa_2 hX, kxa_3 hX, kxa_6 hX, kxa_7 hX, kxa_8 hX, kxa_9 hX, kxa_10 hX, kxa_18 hX, kxa_20 hX, kxa_21 hX, kxa_22 hX, kxa_23 hX, kxa_26 hX, kxa_27 hX, kxr_5 hX, kxr_11 hX, kxr_28 hX]
      generalize x' + u = x2 at hq ⊢
      generalize y' + v = y2 at hq ⊢
      refine H56 60 _ _ _ _ _ _ ?_
      simp only [sg_X6_isCarriedOn_0, sg_X6_isCarriedOn_9, sg_X6_isCarriedOn_43, sg_X6_isCarriedOn_56, sg_X6_isCarriedOn_77, sg_X6_isCarriedOn_83, cd_X6_isCarriedOn, jwp, o_ic, o_lc, o_iload, o_lload, o_aload, o_istore, o_lstore, o_astore, o_iinc, o_pop, o_dup, o_dup2, o_iadd, o_isub, o_imul, o_iand, o_ior, o_ishl, o_ladd, o_lmul, o_land, o_lor, o_idiv, o_irem, o_ineg, o_i2l, o_l2i, o_i2b, o_i2s, o_lushr, o_lshr, o_lshl, o_lcmp, o_ifeq, o_ifne, o_iflt, o_ifge, o_ifgt, o_ifle, o_iceq, o_icne, o_iclt, o_icge, o_icgt, o_icle, o_goto, o_tsw, jsw, o_lsw, jlk, o_getf, o_putf, o_putz, o_iald, o_zald, o_iast, o_zast, o_aald, o_alen, o_gets, o_zld, o_zlen, o_cpy, o_call, o_callV, o_ireti, o_iretz, o_lret, o_vret, jg, js, jkp, jkill, jsp, jcs, jfw, jov, Value.category, Option.toList_some, Option.toList_none, List.nil_append, List.cons_append, List.append_nil, Nat.reduceAdd, true_and, and_true, jb0, jb01, jb1, jem, true_or, or_true, Classical.not_not, forall_const, List.length_cons, List.length_nil, Nat.reduceLeDiff, Nat.zero_le, Nat.reduceLT, hX, kx_0_0 hX, kx_0_1 hX, kx_0_2 hX, kx_0_3 hX, kx_0_4 hX, kx_0_5 hX, kx_0_6 hX, kx_0_7 hX, kx_0_8 hX, kxo_0 hX, kx_1_0 hX, kx_1_1 hX, kx_1_2 hX, kx_1_3 hX, kxo_1 hX, kx_4_0 hX, kx_4_1 hX, kx_4_2 hX, kxo_4 hX, kx_19_0 hX, kx_19_1 hX, kx_19_2 hX, kx_19_3 hX, kx_19_4 hX, kxo_19 hX, kx_24_0 hX, kx_24_1 hX, kx_24_2 hX, kx_24_3 hX, kx_24_4 hX, kx_24_5 hX, kx_24_6 hX, kxo_24 hX, kxa_2 hX, kxa_3 hX, kxa_6 hX, kxa_7 hX, kxa_8 hX, kxa_9 hX, kxa_10 hX, kxa_18 hX, kxa_20 hX, kxa_21 hX, kxa_22 hX, kxa_23 hX, kxa_26 hX, kxa_27 hX, kxr_5 hX, kxr_11 hX, kxr_28 hX, T_X6_isOn, T_X6_colourIn]
      rw [nI_1]
      refine ⟨fun c2 => ?_, fun c2 => ?_⟩
      rotate_right
      · rw [jb_pos (show jcarry (h 2) (h 26) u v (n + 1) x' y' from fun z => absurd z c)] at hq
        exact hq
      · refine ih (i + 1) (by omega) _ _ _ ?_
        have e : (jcol (h 2) x2 y2 = du ∧ jcarry (h 2) (h 26) u v n x2 y2) = jcarry (h 2) (h 26) u v n x2 y2 := propext ⟨fun z => z.2, fun z => ⟨c2, z⟩⟩
        rw [e] at hq
        exact hq
      · rw [jb_neg (fun z => c2 z.1)] at hq
        exact hq
  refine H0 60 _ _ _ _ _ _ ?_
  simp only [sg_X6_isCarriedOn_0, sg_X6_isCarriedOn_9, sg_X6_isCarriedOn_43, sg_X6_isCarriedOn_56, sg_X6_isCarriedOn_77, sg_X6_isCarriedOn_83, cd_X6_isCarriedOn, jwp, o_ic, o_lc, o_iload, o_lload, o_aload, o_istore, o_lstore, o_astore, o_iinc, o_pop, o_dup, o_dup2, o_iadd, o_isub, o_imul, o_iand, o_ior, o_ishl, o_ladd, o_lmul, o_land, o_lor, o_idiv, o_irem, o_ineg, o_i2l, o_l2i, o_i2b, o_i2s, o_lushr, o_lshr, o_lshl, o_lcmp, o_ifeq, o_ifne, o_iflt, o_ifge, o_ifgt, o_ifle, o_iceq, o_icne, o_iclt, o_icge, o_icgt, o_icle, o_goto, o_tsw, jsw, o_lsw, jlk, o_getf, o_putf, o_putz, o_iald, o_zald, o_iast, o_zast, o_aald, o_alen, o_gets, o_zld, o_zlen, o_cpy, o_call, o_callV, o_ireti, o_iretz, o_lret, o_vret, jg, js, jkp, jkill, jsp, jcs, jfw, jov, Value.category, Option.toList_some, Option.toList_none, List.nil_append, List.cons_append, List.append_nil, Nat.reduceAdd, true_and, and_true, jb0, jb01, jb1, jem, true_or, or_true, Classical.not_not, forall_const, List.length_cons, List.length_nil, Nat.reduceLeDiff, Nat.zero_le, Nat.reduceLT, hX, kx_0_0 hX, kx_0_1 hX, kx_0_2 hX, kx_0_3 hX, kx_0_4 hX, kx_0_5 hX, kx_0_6 hX, kx_0_7 hX, kx_0_8 hX, kxo_0 hX, kx_1_0 hX, kx_1_1 hX, kx_1_2 hX, kx_1_3 hX, kxo_1 hX, kx_4_0 hX, kx_4_1 hX, kx_4_2 hX, kxo_4 hX, kx_19_0 hX, kx_19_1 hX, kx_19_2 hX, kx_19_3 hX, kx_19_4 hX, kxo_19 hX, kx_24_0 hX, kx_24_1 hX, kx_24_2 hX, kx_24_3 hX, kx_24_4 hX, kx_24_5 hX, kx_24_6 hX, kxo_24 hX, kxa_2 hX, kxa_3 hX, kxa_6 hX, kxa_7 hX, kxa_8 hX, kxa_9 hX, kxa_10 hX, kxa_18 hX, kxa_20 hX, kxa_21 hX, kxa_22 hX, kxa_23 hX, kxa_26 hX, kxa_27 hX, kxr_5 hX, kxr_11 hX, kxr_28 hX]
  exact loop N 0 (by omega) x y none hT
theorem m_X6_isCarriedOn (l : Launch) : jHolds vwCl l yX6_isCarriedOn wsX6_isCarriedOn 3 65 0 0 T_X6_isCarriedOn := by
  refine m_X6_isCarriedOn_of l (fun G Q vs K h H0 H9 H43 H56 hT => ?_)
  unfold T_X6_isCarriedOn at hT
  split at hT
  · obtain ⟨rfl, hT⟩ := hT
    exact ⟨Nat.le_of_ble_eq_true rfl, v_X6_isCarriedOn hT H0 H9 H43 H56⟩
  · exact hT.elim

