/-! X6_comesBackShifted -/
def T_X6_comesBackShifted : jT := fun vs K h Q => match vs with
  | [.ref r0, .int u, .int v] => r0 = 0 ∧ (jX K ∧ Q (some (.int (jb (∀ P, P < 57600 → ¬ h 27 P = 0 → jcy (h 2) (h 26) u v (xO P) (yO P))))) K h)
  | _ => False
def sg_X6_comesBackShifted_0 : jS := [(o_ic (0), 1), (o_istore 3, 1)]
def sg_X6_comesBackShifted_2 : jS := [(o_iload 3, 1), (o_ic (57600), 2), (o_icge 53, 3), (o_aload 0, 1), (o_getf 6 5, 3), (o_getf 2 6, 3), (o_iload 3, 1), (o_iald, 1), (o_ifeq 47, 3), (o_aload 0, 1), (o_iload 3, 1), (o_ic (240), 3), (o_irem, 1), (o_ic (-120), 2), (o_iadd, 1), (o_iload 3, 1), (o_ic (240), 3), (o_idiv, 1), (o_ic (-120), 2), (o_iadd, 1), (o_iload 1, 1), (o_iload 2, 1), (o_callV 5 6 T_X6_isCarriedOn, 3), (o_ifne 47, 3), (o_ic (0), 1), (o_iretz, 1)]
def sg_X6_comesBackShifted_47 : jS := [(o_iinc 3 (1), 3), (o_goto 2, 3)]
def sg_X6_comesBackShifted_53 : jS := [(o_ic (1), 1), (o_iretz, 1)]
def cd_X6_comesBackShifted : Nat → jS := fun t => match t with
  | 47 => sg_X6_comesBackShifted_47
  | 53 => sg_X6_comesBackShifted_53
  | _ => []
theorem wl_X6_comesBackShifted_44 : Cond.fieldLink RX6 44 (TX6 5).1 (TX6 5).2.1 (TX6 5).2.2.1 ∈ wsX6_comesBackShifted := by decide +kernel
theorem wl_X6_comesBackShifted_297 : Cond.fieldLink RX6 297 (TX2 6).1 (TX2 6).2.1 (TX2 6).2.2.1 ∈ wsX6_comesBackShifted := by decide +kernel
theorem wi_X6_comesBackShifted_X2 : ∀ w ∈ u_ws RX2 TX2 7, w ∈ wsX6_comesBackShifted := by decide +kernel
theorem wi_X6_comesBackShifted_X6 : ∀ w ∈ u_ws RX6 TX6 9, w ∈ wsX6_comesBackShifted := by decide +kernel
def E_X6_comesBackShifted (Γ : jΓ) (Q : jPost) : Prop := Γ.2.2.2.2.2.2.2.2.2.2.1 = 4 ∧ Γ.2.2.2.2.2.2.2.2.2.2.2.1 = vwCl ∧ jC Γ cX6_comesBackShifted RX6 "comesBackShifted" (some .boolean) wsX6_comesBackShifted 4 93 0 0 ∧ jR Γ Q 0 0
theorem oo_X6_comesBackShifted_0 {Γ : jΓ} {Q : jPost} (E : E_X6_comesBackShifted Γ Q) : jSA Γ Q 0 (o_ic (0)) 1 := so_iconst E.2.2.1 rfl dX6_comesBackShifted_0
theorem oo_X6_comesBackShifted_1 {Γ : jΓ} {Q : jPost} (E : E_X6_comesBackShifted Γ Q) : jSA Γ Q 1 (o_istore 3) 1 := so_istore_n E.2.2.1 rfl (by rw [E.1]; decide) dX6_comesBackShifted_1
theorem oo_X6_comesBackShifted_2 {Γ : jΓ} {Q : jPost} (E : E_X6_comesBackShifted Γ Q) : jSA Γ Q 2 (o_iload 3) 1 := so_iload_n E.2.2.1 rfl dX6_comesBackShifted_2
theorem oo_X6_comesBackShifted_3 {Γ : jΓ} {Q : jPost} (E : E_X6_comesBackShifted Γ Q) : jSA Γ Q 3 (o_ic (57600)) 2 := so_ldc E.2.2.1 (by decide +kernel) dX6_comesBackShifted_3
theorem oo_X6_comesBackShifted_5 {Γ : jΓ} {Q : jPost} (E : E_X6_comesBackShifted Γ Q) : jSA Γ Q 5 (o_icge 53) 3 := so_icge E.2.2.1 (by decide) dX6_comesBackShifted_5
theorem oo_X6_comesBackShifted_8 {Γ : jΓ} {Q : jPost} (E : E_X6_comesBackShifted Γ Q) : jSA Γ Q 8 (o_aload 0) 1 := so_aload_n E.2.2.1 rfl dX6_comesBackShifted_8
theorem oo_X6_comesBackShifted_9 {Γ : jΓ} {Q : jPost} (E : E_X6_comesBackShifted Γ Q) : jSA Γ Q 9 (o_getf 6 5) 3 := so_getf (ci := 6) E.2.2.1 wi_X6_comesBackShifted_X6 (by rw [E.2.1]; rfl) 5 (by decide) wl_X6_comesBackShifted_44 dX6_comesBackShifted_9
theorem oo_X6_comesBackShifted_12 {Γ : jΓ} {Q : jPost} (E : E_X6_comesBackShifted Γ Q) : jSA Γ Q 12 (o_getf 2 6) 3 := so_getf (ci := 2) E.2.2.1 wi_X6_comesBackShifted_X2 (by rw [E.2.1]; rfl) 6 (by decide) wl_X6_comesBackShifted_297 dX6_comesBackShifted_12
theorem oo_X6_comesBackShifted_15 {Γ : jΓ} {Q : jPost} (E : E_X6_comesBackShifted Γ Q) : jSA Γ Q 15 (o_iload 3) 1 := so_iload_n E.2.2.1 rfl dX6_comesBackShifted_15
theorem oo_X6_comesBackShifted_16 {Γ : jΓ} {Q : jPost} (E : E_X6_comesBackShifted Γ Q) : jSA Γ Q 16 (o_iald) 1 := so_iald E.2.2.1 dX6_comesBackShifted_16
theorem oo_X6_comesBackShifted_17 {Γ : jΓ} {Q : jPost} (E : E_X6_comesBackShifted Γ Q) : jSA Γ Q 17 (o_ifeq 47) 3 := so_ifeq E.2.2.1 (by decide) dX6_comesBackShifted_17
theorem oo_X6_comesBackShifted_20 {Γ : jΓ} {Q : jPost} (E : E_X6_comesBackShifted Γ Q) : jSA Γ Q 20 (o_aload 0) 1 := so_aload_n E.2.2.1 rfl dX6_comesBackShifted_20
theorem oo_X6_comesBackShifted_21 {Γ : jΓ} {Q : jPost} (E : E_X6_comesBackShifted Γ Q) : jSA Γ Q 21 (o_iload 3) 1 := so_iload_n E.2.2.1 rfl dX6_comesBackShifted_21
theorem oo_X6_comesBackShifted_22 {Γ : jΓ} {Q : jPost} (E : E_X6_comesBackShifted Γ Q) : jSA Γ Q 22 (o_ic (240)) 3 := so_sipush E.2.2.1 rfl dX6_comesBackShifted_22
theorem oo_X6_comesBackShifted_25 {Γ : jΓ} {Q : jPost} (E : E_X6_comesBackShifted Γ Q) : jSA Γ Q 25 (o_irem) 1 := so_irem E.2.2.1 dX6_comesBackShifted_25
theorem oo_X6_comesBackShifted_26 {Γ : jΓ} {Q : jPost} (E : E_X6_comesBackShifted Γ Q) : jSA Γ Q 26 (o_ic (-120)) 2 := so_bipush E.2.2.1 rfl dX6_comesBackShifted_26
theorem oo_X6_comesBackShifted_28 {Γ : jΓ} {Q : jPost} (E : E_X6_comesBackShifted Γ Q) : jSA Γ Q 28 (o_iadd) 1 := so_iadd E.2.2.1 dX6_comesBackShifted_28
theorem oo_X6_comesBackShifted_29 {Γ : jΓ} {Q : jPost} (E : E_X6_comesBackShifted Γ Q) : jSA Γ Q 29 (o_iload 3) 1 := so_iload_n E.2.2.1 rfl dX6_comesBackShifted_29
theorem oo_X6_comesBackShifted_30 {Γ : jΓ} {Q : jPost} (E : E_X6_comesBackShifted Γ Q) : jSA Γ Q 30 (o_ic (240)) 3 := so_sipush E.2.2.1 rfl dX6_comesBackShifted_30
theorem oo_X6_comesBackShifted_33 {Γ : jΓ} {Q : jPost} (E : E_X6_comesBackShifted Γ Q) : jSA Γ Q 33 (o_idiv) 1 := so_idiv E.2.2.1 dX6_comesBackShifted_33
theorem oo_X6_comesBackShifted_34 {Γ : jΓ} {Q : jPost} (E : E_X6_comesBackShifted Γ Q) : jSA Γ Q 34 (o_ic (-120)) 2 := so_bipush E.2.2.1 rfl dX6_comesBackShifted_34
theorem oo_X6_comesBackShifted_36 {Γ : jΓ} {Q : jPost} (E : E_X6_comesBackShifted Γ Q) : jSA Γ Q 36 (o_iadd) 1 := so_iadd E.2.2.1 dX6_comesBackShifted_36
theorem oo_X6_comesBackShifted_37 {Γ : jΓ} {Q : jPost} (E : E_X6_comesBackShifted Γ Q) : jSA Γ Q 37 (o_iload 1) 1 := so_iload_n E.2.2.1 rfl dX6_comesBackShifted_37
theorem oo_X6_comesBackShifted_38 {Γ : jΓ} {Q : jPost} (E : E_X6_comesBackShifted Γ Q) : jSA Γ Q 38 (o_iload 2) 1 := so_iload_n E.2.2.1 rfl dX6_comesBackShifted_38
theorem oo_X6_comesBackShifted_39 {Γ : jΓ} {Q : jPost} (E : E_X6_comesBackShifted Γ Q) : jSA Γ Q 39 (o_callV 5 6 T_X6_isCarriedOn) 3 := so_callV E.2.2.1 (ci := 6) (by rw [E.2.1]; rfl) gX6_comesBackShifted_X6_isCarriedOn (by decide +kernel) rfl (by rw [E.2.1]; exact m_X6_isCarriedOn _) (by decide) (by decide) dX6_comesBackShifted_39
theorem oo_X6_comesBackShifted_42 {Γ : jΓ} {Q : jPost} (E : E_X6_comesBackShifted Γ Q) : jSA Γ Q 42 (o_ifne 47) 3 := so_ifne E.2.2.1 (by decide) dX6_comesBackShifted_42
theorem oo_X6_comesBackShifted_45 {Γ : jΓ} {Q : jPost} (E : E_X6_comesBackShifted Γ Q) : jSA Γ Q 45 (o_ic (0)) 1 := so_iconst E.2.2.1 rfl dX6_comesBackShifted_45
theorem oo_X6_comesBackShifted_46 {Γ : jΓ} {Q : jPost} (E : E_X6_comesBackShifted Γ Q) : jSA Γ Q 46 (o_iretz) 1 := so_iretz E.2.2.1 E.2.2.2 dX6_comesBackShifted_46
theorem oo_X6_comesBackShifted_47 {Γ : jΓ} {Q : jPost} (E : E_X6_comesBackShifted Γ Q) : jSA Γ Q 47 (o_iinc 3 (1)) 3 := so_iinc E.2.2.1 rfl (by rw [E.1]; decide) dX6_comesBackShifted_47
theorem oo_X6_comesBackShifted_50 {Γ : jΓ} {Q : jPost} (E : E_X6_comesBackShifted Γ Q) : jSA Γ Q 50 (o_goto 2) 3 := so_goto E.2.2.1 (by decide) dX6_comesBackShifted_50
theorem oo_X6_comesBackShifted_53 {Γ : jΓ} {Q : jPost} (E : E_X6_comesBackShifted Γ Q) : jSA Γ Q 53 (o_ic (1)) 1 := so_iconst E.2.2.1 rfl dX6_comesBackShifted_53
theorem oo_X6_comesBackShifted_54 {Γ : jΓ} {Q : jPost} (E : E_X6_comesBackShifted Γ Q) : jSA Γ Q 54 (o_iretz) 1 := so_iretz E.2.2.1 E.2.2.2 dX6_comesBackShifted_54
theorem ok_X6_comesBackShifted_0 {Γ : jΓ} {Q : jPost} (E : E_X6_comesBackShifted Γ Q) : jSS Γ Q 0 sg_X6_comesBackShifted_0 := ⟨oo_X6_comesBackShifted_0 E, oo_X6_comesBackShifted_1 E, trivial⟩
theorem ok_X6_comesBackShifted_2 {Γ : jΓ} {Q : jPost} (E : E_X6_comesBackShifted Γ Q) : jSS Γ Q 2 sg_X6_comesBackShifted_2 := ⟨oo_X6_comesBackShifted_2 E, oo_X6_comesBackShifted_3 E, oo_X6_comesBackShifted_5 E, oo_X6_comesBackShifted_8 E, oo_X6_comesBackShifted_9 E, oo_X6_comesBackShifted_12 E, oo_X6_comesBackShifted_15 E, oo_X6_comesBackShifted_16 E, oo_X6_comesBackShifted_17 E, oo_X6_comesBackShifted_20 E, oo_X6_comesBackShifted_21 E, oo_X6_comesBackShifted_22 E, oo_X6_comesBackShifted_25 E, oo_X6_comesBackShifted_26 E, oo_X6_comesBackShifted_28 E, oo_X6_comesBackShifted_29 E, oo_X6_comesBackShifted_30 E, oo_X6_comesBackShifted_33 E, oo_X6_comesBackShifted_34 E, oo_X6_comesBackShifted_36 E, oo_X6_comesBackShifted_37 E, oo_X6_comesBackShifted_38 E, oo_X6_comesBackShifted_39 E, oo_X6_comesBackShifted_42 E, oo_X6_comesBackShifted_45 E, oo_X6_comesBackShifted_46 E, trivial⟩
theorem ok_X6_comesBackShifted_47 {Γ : jΓ} {Q : jPost} (E : E_X6_comesBackShifted Γ Q) : jSS Γ Q 47 sg_X6_comesBackShifted_47 := ⟨oo_X6_comesBackShifted_47 E, oo_X6_comesBackShifted_50 E, trivial⟩
theorem ok_X6_comesBackShifted_53 {Γ : jΓ} {Q : jPost} (E : E_X6_comesBackShifted Γ Q) : jSS Γ Q 53 sg_X6_comesBackShifted_53 := ⟨oo_X6_comesBackShifted_53 E, oo_X6_comesBackShifted_54 E, trivial⟩
theorem okc_X6_comesBackShifted {Γ : jΓ} {Q : jPost} (E : E_X6_comesBackShifted Γ Q) (t : Nat) : jSS Γ Q t (cd_X6_comesBackShifted t) := by
  unfold cd_X6_comesBackShifted
  split
  · exact ok_X6_comesBackShifted_47 E
  · exact ok_X6_comesBackShifted_53 E
  · trivial
theorem m_X6_comesBackShifted_of (l : Launch) (hv : ∀ (G : jGt) (Q : jPost) (vs : List Value) (K : List jK) (h : jM), jHd cd_X6_comesBackShifted G Q sg_X6_comesBackShifted_0 0 → jHd cd_X6_comesBackShifted G Q sg_X6_comesBackShifted_2 2 → T_X6_comesBackShifted vs K h Q → (lg_sl vs).length ≤ 4 ∧ G 0 (jinit vs 4) [] K h 0 0) : jHolds vwCl l yX6_comesBackShifted wsX6_comesBackShifted 4 93 0 0 T_X6_comesBackShifted := by
  refine jMet (cc := cX6_comesBackShifted) (maxL := 4) (rt := (some .boolean)) (by decide +kernel) rfl (fun Γ Q vs K h hl hn hcl C hR hT => hv (jG Γ) Q vs K h ?_ ?_ hT)
  · exact fun n L st K h ce sl => jwp_ok (okc_X6_comesBackShifted ⟨hn, hcl, C, hR⟩) n sg_X6_comesBackShifted_0 0 (ok_X6_comesBackShifted_0 ⟨hn, hcl, C, hR⟩) L st K h ce sl
  · exact fun n L st K h ce sl => jwp_ok (okc_X6_comesBackShifted ⟨hn, hcl, C, hR⟩) n sg_X6_comesBackShifted_2 2 (ok_X6_comesBackShifted_2 ⟨hn, hcl, C, hR⟩) L st K h ce sl
set_option maxHeartbeats 4000000 in
set_option maxRecDepth 100000 in
theorem v_X6_comesBackShifted {G : jGt} {Q : jPost} {K : List jK} {h : jM} {u : Int32} {v : Int32} (hT : jX K ∧ Q (some (.int (jb (∀ P, P < 57600 → ¬ h 27 P = 0 → jcy (h 2) (h 26) u v (xO P) (yO P))))) K h) (H0 : jHd cd_X6_comesBackShifted G Q sg_X6_comesBackShifted_0 0) (H2 : jHd cd_X6_comesBackShifted G Q sg_X6_comesBackShifted_2 2) : G 0 [some (.ref 0), some (.int u), some (.int v), none] [] K h 0 0 := by
  obtain ⟨hX, hT⟩ := hT
  have n0 : ¬ (240 : Int32) = 0 := by decide
  have loop : ∀ n i, i + n = 57600 → (∀ P, P < i → ¬ h 27 P = 0 → jcy (h 2) (h 26) u v (xO P) (yO P)) → G 2 [some (.ref 0), some (.int u), some (.int v), some (.int (nI i))] [] K h 0 0 := by
    intro n
    induction n with
    | zero =>
      intro i hi hz
      have : i = 57600 := by omega
      subst this
      refine H2 40 _ _ _ _ _ _ ?_
      simp only [sg_X6_comesBackShifted_0, sg_X6_comesBackShifted_2, sg_X6_comesBackShifted_47, sg_X6_comesBackShifted_53, cd_X6_comesBackShifted, jwp, o_ic, o_lc, o_iload, o_lload, o_aload, o_istore, o_lstore, o_astore, o_iinc, o_pop, o_dup, o_dup2, o_iadd, o_isub, o_imul, o_iand, o_ior, o_ishl, o_ladd, o_lmul, o_land, o_lor, o_idiv, o_irem, o_ineg, o_i2l, o_l2i, o_i2b, o_i2s, o_lushr, o_lshr, o_lshl, o_lcmp, o_ifeq, o_ifne, o_iflt, o_ifge, o_ifgt, o_ifle, o_iceq, o_icne, o_iclt, o_icge, o_icgt, o_icle, o_goto, o_tsw, jsw, o_lsw, jlk, o_getf, o_putf, o_putz, o_iald, o_zald, o_iast, o_zast, o_aald, o_alen, o_gets, o_zld, o_zlen, o_cpy, o_call, o_callV, o_ireti, o_iretz, o_lret, o_vret, jg, js, jkp, jkill, jsp, jcs, jfw, jov, Value.category, Option.toList_some, Option.toList_none, List.nil_append, List.cons_append, List.append_nil, Nat.reduceAdd, true_and, and_true, jb0, jb01, jb1, jem, true_or, or_true, Classical.not_not, forall_const, List.length_cons, List.length_nil, Nat.reduceLeDiff, Nat.zero_le, Nat.reduceLT, hX, kx_0_0 hX, kx_0_1 hX, kx_0_2 hX, kx_0_3 hX, kx_0_4 hX, kx_0_5 hX, kx_0_6 hX, kx_0_7 hX, kx_0_8 hX, kxo_0 hX, kx_1_0 hX, kx_1_1 hX, kx_1_2 hX, kx_1_3 hX, kxo_1 hX, kx_4_0 hX, kx_4_1 hX, kx_4_2 hX, kxo_4 hX, kx_19_0 hX, kx_19_1 hX, kx_19_2 hX, kx_19_3 hX, kx_19_4 hX, kxo_19 hX, kx_24_0 hX, kx_24_1 hX, kx_24_2 hX, kx_24_3 hX, kx_24_4 hX, kx_24_5 hX, kx_24_6 hX, kxo_24 hX, kxa_2 hX, kxa_3 hX, kxa_6 hX, kxa_7 hX, kxa_8 hX, kxa_9 hX, kxa_10 hX, kxa_18 hX, kxa_20 hX, kxa_21 hX, kxa_22 hX, kxa_23 hX, kxa_26 hX, kxa_27 hX, kxr_5 hX, kxr_11 hX, kxr_28 hX]
      rw [e57600]
      rw [jb_pos hz] at hT
      exact ⟨fun _ => hT, fun q => absurd (Int32.le_refl _) q⟩
    | succ n ih =>
      intro i hi hz
      have h2 := fun (hc : ¬ h 27 i = 0 → jcy (h 2) (h 26) u v (xO i) (yO i)) => ih (i + 1) (by omega) (fun P hP => by
        by_cases e : P = i
        · rw [e]; exact hc
        · exact hz P (by omega))
      have hv : vp_in (nI i) 57600 := vp_in_nI (by omega) (by decide)
      have h31 : i < 2147483648 := by omega
      refine H2 60 _ _ _ _ _ _ ?_
      simp only [sg_X6_comesBackShifted_0, sg_X6_comesBackShifted_2, sg_X6_comesBackShifted_47, sg_X6_comesBackShifted_53, cd_X6_comesBackShifted, jwp, o_ic, o_lc, o_iload, o_lload, o_aload, o_istore, o_lstore, o_astore, o_iinc, o_pop, o_dup, o_dup2, o_iadd, o_isub, o_imul, o_iand, o_ior, o_ishl, o_ladd, o_lmul, o_land, o_lor, o_idiv, o_irem, o_ineg, o_i2l, o_l2i, o_i2b, o_i2s, o_lushr, o_lshr, o_lshl, o_lcmp, o_ifeq, o_ifne, o_iflt, o_ifge, o_ifgt, o_ifle, o_iceq, o_icne, o_iclt, o_icge, o_icgt, o_icle, o_goto, o_tsw, jsw, o_lsw, jlk, o_getf, o_putf, o_putz, o_iald, o_zald, o_iast, o_zast, o_aald, o_alen, o_gets, o_zld, o_zlen, o_cpy, o_call, o_callV, o_ireti, o_iretz, o_lret, o_vret, jg, js, jkp, jkill, jsp, jcs, jfw, jov, Value.category, Option.toList_some, Option.toList_none, List.nil_append, List.cons_append, List.append_nil, Nat.reduceAdd, true_and, and_true, jb0, jb01, jb1, jem, true_or, or_true, Classical.not_not, forall_const, List.length_cons, List.length_nil, Nat.reduceLeDiff, Nat.zero_le, Nat.reduceLT, hX, kx_0_0 hX, kx_0_1 hX, kx_0_2 hX, kx_0_3 hX, kx_0_4 hX, kx_0_5 hX, kx_0_6 hX, kx_0_7 hX, kx_0_8 hX, kxo_0 hX, kx_1_0 hX, kx_1_1 hX, kx_1_2 hX, kx_1_3 hX, kxo_1 hX, kx_4_0 hX, kx_4_1 hX, kx_4_2 hX, kxo_4 hX, kx_19_0 hX, kx_19_1 hX, kx_19_2 hX, kx_19_3 hX, kx_19_4 hX, kxo_19 hX, kx_24_0 hX, kx_24_1 hX, kx_24_2 hX, kx_24_3 hX, kx_24_4 hX, kx_24_5 hX, kx_24_6 hX, kxo_24 hX, kxa_2 hX, kxa_3 hX, kxa_6 hX, kxa_7 hX, kxa_8 hX, kxa_9 hX, kxa_10 hX, kxa_18 hX, kxa_20 hX, kxa_21 hX, kxa_22 hX, kxa_23 hX, kxa_26 hX, kxa_27 hX, kxr_5 hX, kxr_11 hX, kxr_28 hX, hv, nI_clamp h31, T_X6_isCarriedOn, e240, n240, not_false_eq_true, jrem2 h31 (show 0 < 240 by decide) (show 240 < 2147483648 by decide), jdiv h31 (show 0 < 240 by decide) (show 240 < 2147483648 by decide)]
      rw [e57600, nI_1]
      refine ⟨fun c => absurd ((nI_leI (by omega) (by omega)).mp c) (by omega), fun _ => ⟨fun c => ?_, fun c => ⟨fun c2 => ?_, fun c2 => ?_⟩⟩⟩
      · exact h2 (fun z => absurd c z)
      · exact h2 (fun _ => c2)
      · rw [jb_neg (fun z => c2 (z i (by omega) c))] at hT
        exact hT
  refine H0 40 _ _ _ _ _ _ ?_
  simp only [sg_X6_comesBackShifted_0, sg_X6_comesBackShifted_2, sg_X6_comesBackShifted_47, sg_X6_comesBackShifted_53, cd_X6_comesBackShifted, jwp, o_ic, o_lc, o_iload, o_lload, o_aload, o_istore, o_lstore, o_astore, o_iinc, o_pop, o_dup, o_dup2, o_iadd, o_isub, o_imul, o_iand, o_ior, o_ishl, o_ladd, o_lmul, o_land, o_lor, o_idiv, o_irem, o_ineg, o_i2l, o_l2i, o_i2b, o_i2s, o_lushr, o_lshr, o_lshl, o_lcmp, o_ifeq, o_ifne, o_iflt, o_ifge, o_ifgt, o_ifle, o_iceq, o_icne, o_iclt, o_icge, o_icgt, o_icle, o_goto, o_tsw, jsw, o_lsw, jlk, o_getf, o_putf, o_putz, o_iald, o_zald, o_iast, o_zast, o_aald, o_alen, o_gets, o_zld, o_zlen, o_cpy, o_call, o_callV, o_ireti, o_iretz, o_lret, o_vret, jg, js, jkp, jkill, jsp, jcs, jfw, jov, Value.category, Option.toList_some, Option.toList_none, List.nil_append, List.cons_append, List.append_nil, Nat.reduceAdd, true_and, and_true, jb0, jb01, jb1, jem, true_or, or_true, Classical.not_not, forall_const, List.length_cons, List.length_nil, Nat.reduceLeDiff, Nat.zero_le, Nat.reduceLT, hX, kx_0_0 hX, kx_0_1 hX, kx_0_2 hX, kx_0_3 hX, kx_0_4 hX, kx_0_5 hX, kx_0_6 hX, kx_0_7 hX, kx_0_8 hX, kxo_0 hX, kx_1_0 hX, kx_1_1 hX, kx_1_2 hX, kx_1_3 hX, kxo_1 hX, kx_4_0 hX, kx_4_1 hX, kx_4_2 hX, kxo_4 hX, kx_19_0 hX, kx_19_1 hX, kx_19_2 hX, kx_19_3 hX, kx_19_4 hX, kxo_19 hX, kx_24_0 hX, kx_24_1 hX, kx_24_2 hX, kx_24_3 hX, kx_24_4 hX, kx_24_5 hX, kx_24_6 hX, kxo_24 hX, kxa_2 hX, kxa_3 hX, kxa_6 hX, kxa_7 hX, kxa_8 hX, kxa_9 hX, kxa_10 hX, kxa_18 hX, kxa_20 hX, kxa_21 hX, kxa_22 hX, kxa_23 hX, kxa_26 hX, kxa_27 hX, kxr_5 hX, kxr_11 hX, kxr_28 hX]
  exact loop 57600 0 (by omega) (fun P hP => by omega)
theorem m_X6_comesBackShifted (l : Launch) : jHolds vwCl l yX6_comesBackShifted wsX6_comesBackShifted 4 93 0 0 T_X6_comesBackShifted := by
  refine m_X6_comesBackShifted_of l (fun G Q vs K h H0 H2 hT => ?_)
  unfold T_X6_comesBackShifted at hT
  split at hT
  · obtain ⟨rfl, hT⟩ := hT
    exact ⟨Nat.le_of_ble_eq_true rfl, v_X6_comesBackShifted hT H0 H2⟩
  · exact hT.elim

