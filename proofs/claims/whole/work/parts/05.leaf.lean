/-! ===== leaves ===== -/
def jb (p : Prop) [Decidable p] : Int32 := if p then 1 else 0
theorem jb0 (p : Prop) [Decidable p] : (jb p = 0) = ¬ p := by
  unfold jb; by_cases h : p <;> simp [h]
theorem jb1 (p : Prop) [Decidable p] : (jb p = 1) = p := by
  unfold jb; by_cases h : p <;> simp [h]
theorem jb01 (p : Prop) [Decidable p] : (jb p = 0 ∨ jb p = 1) = True := by
  unfold jb; by_cases h : p <;> simp [h]
theorem jb_pos {p : Prop} [Decidable p] (h : p) : jb p = 1 := if_pos h
theorem jb_neg {p : Prop} [Decidable p] (h : ¬ p) : jb p = 0 := if_neg h
/-- a cell of the floor -/
def onF (x y : Int32) : Prop := (-120 ≤ x ∧ x ≤ 119) ∧ (-120 ≤ y ∧ y ≤ 119)
noncomputable def decF : True := trivial

/-! X6_isWithin -/
def T_X6_isWithin : jT := fun vs K h Q => match vs with
  | [.int v, .int lo, .int hi] => (Q (some (.int (jb (lo ≤ v ∧ v ≤ hi)))) K h)
  | _ => False
def sg_X6_isWithin_0 : jS := [(o_iload 0, 1), (o_iload 1, 1), (o_iclt 14, 3), (o_iload 0, 1), (o_iload 2, 1), (o_icgt 14, 3), (o_ic (1), 1), (o_goto 15, 3)]
def sg_X6_isWithin_14 : jS := [(o_ic (0), 1), (o_iretz, 1)]
def sg_X6_isWithin_15 : jS := [(o_iretz, 1)]
def cd_X6_isWithin : Nat → jS := fun t => match t with
  | 14 => sg_X6_isWithin_14
  | 15 => sg_X6_isWithin_15
  | _ => []
def E_X6_isWithin (Γ : jΓ) (Q : jPost) : Prop := Γ.2.2.2.2.2.2.2.2.2.2.1 = 3 ∧ Γ.2.2.2.2.2.2.2.2.2.2.2.1 = vwCl ∧ jC Γ cX6_isWithin RX6 "isWithin" (some .boolean) wsX6_isWithin 0 0 0 0 ∧ jR Γ Q 0 0
theorem oo_X6_isWithin_0 {Γ : jΓ} {Q : jPost} (E : E_X6_isWithin Γ Q) : jSA Γ Q 0 (o_iload 0) 1 := so_iload_n E.2.2.1 rfl dX6_isWithin_0
theorem oo_X6_isWithin_1 {Γ : jΓ} {Q : jPost} (E : E_X6_isWithin Γ Q) : jSA Γ Q 1 (o_iload 1) 1 := so_iload_n E.2.2.1 rfl dX6_isWithin_1
theorem oo_X6_isWithin_2 {Γ : jΓ} {Q : jPost} (E : E_X6_isWithin Γ Q) : jSA Γ Q 2 (o_iclt 14) 3 := so_iclt E.2.2.1 (by decide) dX6_isWithin_2
theorem oo_X6_isWithin_5 {Γ : jΓ} {Q : jPost} (E : E_X6_isWithin Γ Q) : jSA Γ Q 5 (o_iload 0) 1 := so_iload_n E.2.2.1 rfl dX6_isWithin_5
theorem oo_X6_isWithin_6 {Γ : jΓ} {Q : jPost} (E : E_X6_isWithin Γ Q) : jSA Γ Q 6 (o_iload 2) 1 := so_iload_n E.2.2.1 rfl dX6_isWithin_6
theorem oo_X6_isWithin_7 {Γ : jΓ} {Q : jPost} (E : E_X6_isWithin Γ Q) : jSA Γ Q 7 (o_icgt 14) 3 := so_icgt E.2.2.1 (by decide) dX6_isWithin_7
theorem oo_X6_isWithin_10 {Γ : jΓ} {Q : jPost} (E : E_X6_isWithin Γ Q) : jSA Γ Q 10 (o_ic (1)) 1 := so_iconst E.2.2.1 rfl dX6_isWithin_10
theorem oo_X6_isWithin_11 {Γ : jΓ} {Q : jPost} (E : E_X6_isWithin Γ Q) : jSA Γ Q 11 (o_goto 15) 3 := so_goto E.2.2.1 (by decide) dX6_isWithin_11
theorem oo_X6_isWithin_14 {Γ : jΓ} {Q : jPost} (E : E_X6_isWithin Γ Q) : jSA Γ Q 14 (o_ic (0)) 1 := so_iconst E.2.2.1 rfl dX6_isWithin_14
theorem oo_X6_isWithin_15 {Γ : jΓ} {Q : jPost} (E : E_X6_isWithin Γ Q) : jSA Γ Q 15 (o_iretz) 1 := so_iretz E.2.2.1 E.2.2.2 dX6_isWithin_15
theorem ok_X6_isWithin_0 {Γ : jΓ} {Q : jPost} (E : E_X6_isWithin Γ Q) : jSS Γ Q 0 sg_X6_isWithin_0 := ⟨oo_X6_isWithin_0 E, oo_X6_isWithin_1 E, oo_X6_isWithin_2 E, oo_X6_isWithin_5 E, oo_X6_isWithin_6 E, oo_X6_isWithin_7 E, oo_X6_isWithin_10 E, oo_X6_isWithin_11 E, trivial⟩
theorem ok_X6_isWithin_14 {Γ : jΓ} {Q : jPost} (E : E_X6_isWithin Γ Q) : jSS Γ Q 14 sg_X6_isWithin_14 := ⟨oo_X6_isWithin_14 E, oo_X6_isWithin_15 E, trivial⟩
theorem ok_X6_isWithin_15 {Γ : jΓ} {Q : jPost} (E : E_X6_isWithin Γ Q) : jSS Γ Q 15 sg_X6_isWithin_15 := ⟨oo_X6_isWithin_15 E, trivial⟩
theorem okc_X6_isWithin {Γ : jΓ} {Q : jPost} (E : E_X6_isWithin Γ Q) (t : Nat) : jSS Γ Q t (cd_X6_isWithin t) := by
  unfold cd_X6_isWithin
  split
  · exact ok_X6_isWithin_14 E
  · exact ok_X6_isWithin_15 E
  · trivial
theorem m_X6_isWithin_of (l : Launch) (hv : ∀ (G : jGt) (Q : jPost) (vs : List Value) (K : List jK) (h : jM), jHd cd_X6_isWithin G Q sg_X6_isWithin_0 0 → T_X6_isWithin vs K h Q → (lg_sl vs).length ≤ 3 ∧ G 0 (jinit vs 3) [] K h 0 0) : jHolds vwCl l yX6_isWithin wsX6_isWithin 0 0 0 0 T_X6_isWithin := by
  refine jMet (cc := cX6_isWithin) (maxL := 3) (rt := (some .boolean)) (by decide +kernel) rfl (fun Γ Q vs K h hl hn hcl C hR hT => hv (jG Γ) Q vs K h ?_ hT)
  · exact fun n L st K h ce sl => jwp_ok (okc_X6_isWithin ⟨hn, hcl, C, hR⟩) n sg_X6_isWithin_0 0 (ok_X6_isWithin_0 ⟨hn, hcl, C, hR⟩) L st K h ce sl
set_option maxHeartbeats 4000000 in
set_option maxRecDepth 100000 in
theorem v_X6_isWithin {G : jGt} {Q : jPost} {K : List jK} {h : jM} {v : Int32} {lo : Int32} {hi : Int32} (hT : Q (some (.int (jb (lo ≤ v ∧ v ≤ hi)))) K h) (H0 : jHd cd_X6_isWithin G Q sg_X6_isWithin_0 0) : G 0 [some (.int v), some (.int lo), some (.int hi)] [] K h 0 0 := by
  refine H0 20 _ _ _ _ _ _ ?_
  simp only [sg_X6_isWithin_0, sg_X6_isWithin_14, sg_X6_isWithin_15, cd_X6_isWithin, jwp, o_ic, o_lc, o_iload, o_lload, o_aload, o_istore, o_lstore, o_astore, o_iinc, o_pop, o_dup, o_dup2, o_iadd, o_isub, o_imul, o_iand, o_ior, o_ishl, o_ladd, o_lmul, o_land, o_lor, o_idiv, o_irem, o_ineg, o_i2l, o_l2i, o_i2b, o_i2s, o_lushr, o_lshr, o_lshl, o_lcmp, o_ifeq, o_ifne, o_iflt, o_ifge, o_ifgt, o_ifle, o_iceq, o_icne, o_iclt, o_icge, o_icgt, o_icle, o_goto, o_tsw, jsw, o_lsw, jlk, o_getf, o_putf, o_putz, o_iald, o_zald, o_iast, o_zast, o_aald, o_alen, o_gets, o_zld, o_zlen, o_cpy, o_call, o_callV, o_ireti, o_iretz, o_lret, o_vret, jg, js, jkp, jkill, jsp, jcs, jfw, jov, Value.category, Option.toList_some, Option.toList_none, List.nil_append, List.cons_append, List.append_nil, Nat.reduceAdd, true_and, and_true, jb0, jb01, jb1, Classical.not_not, forall_const]
  unfold jb at hT
  grind
theorem m_X6_isWithin (l : Launch) : jHolds vwCl l yX6_isWithin wsX6_isWithin 0 0 0 0 T_X6_isWithin := by
  refine m_X6_isWithin_of l (fun G Q vs K h H0 hT => ?_)
  unfold T_X6_isWithin at hT
  split at hT
  · skip
    exact ⟨Nat.le_of_ble_eq_true rfl, v_X6_isWithin hT H0⟩
  · exact hT.elim

/-! X0_put -/
def upAnt (h : jM) (a : Nat) (x y d r : Int32) : jM := up2 (up2 (up2 (up2 h a 0 x) a 1 y) a 2 d) a 3 r
def T_X0_put : jT := fun vs K h Q => match vs with
  | [.ref a, .int x, .int y, .int d, .int r] => (isAnt a ∧ jX K ∧ Q none K (upAnt h a x y d r))
  | _ => False
def sg_X0_put_0 : jS := [(o_aload 0, 1), (o_iload 1, 1), (o_putf 0 0, 3), (o_aload 0, 1), (o_iload 2, 1), (o_putf 0 1, 3), (o_aload 0, 1), (o_iload 3, 1), (o_putf 0 2, 3), (o_aload 0, 1), (o_iload 4, 2), (o_putf 0 3, 3), (o_vret, 1)]
def cd_X0_put : Nat → jS := fun t => match t with
  | _ => []
theorem wl_X0_put_7 : Cond.fieldLink RX0 7 (TX0 0).1 (TX0 0).2.1 (TX0 0).2.2.1 ∈ wsX0_put := by decide +kernel
theorem wl_X0_put_13 : Cond.fieldLink RX0 13 (TX0 1).1 (TX0 1).2.1 (TX0 1).2.2.1 ∈ wsX0_put := by decide +kernel
theorem wl_X0_put_16 : Cond.fieldLink RX0 16 (TX0 2).1 (TX0 2).2.1 (TX0 2).2.2.1 ∈ wsX0_put := by decide +kernel
theorem wl_X0_put_19 : Cond.fieldLink RX0 19 (TX0 3).1 (TX0 3).2.1 (TX0 3).2.2.1 ∈ wsX0_put := by decide +kernel
theorem wi_X0_put_X0 : ∀ w ∈ u_ws RX0 TX0 4, w ∈ wsX0_put := by decide +kernel
def E_X0_put (Γ : jΓ) (Q : jPost) : Prop := Γ.2.2.2.2.2.2.2.2.2.2.1 = 5 ∧ Γ.2.2.2.2.2.2.2.2.2.2.2.1 = vwCl ∧ jC Γ cX0_put RX0 "put" none wsX0_put 0 0 0 0 ∧ jR Γ Q 0 0
theorem oo_X0_put_0 {Γ : jΓ} {Q : jPost} (E : E_X0_put Γ Q) : jSA Γ Q 0 (o_aload 0) 1 := so_aload_n E.2.2.1 rfl dX0_put_0
theorem oo_X0_put_1 {Γ : jΓ} {Q : jPost} (E : E_X0_put Γ Q) : jSA Γ Q 1 (o_iload 1) 1 := so_iload_n E.2.2.1 rfl dX0_put_1
theorem oo_X0_put_2 {Γ : jΓ} {Q : jPost} (E : E_X0_put Γ Q) : jSA Γ Q 2 (o_putf 0 0) 3 := so_putf (ci := 0) E.2.2.1 tyX0 tyX0_ok nmX0 wi_X0_put_X0 (by rw [E.2.1]; rfl) 0 (by decide) wl_X0_put_7 rfl (by decide +kernel) dX0_put_2
theorem oo_X0_put_5 {Γ : jΓ} {Q : jPost} (E : E_X0_put Γ Q) : jSA Γ Q 5 (o_aload 0) 1 := so_aload_n E.2.2.1 rfl dX0_put_5
theorem oo_X0_put_6 {Γ : jΓ} {Q : jPost} (E : E_X0_put Γ Q) : jSA Γ Q 6 (o_iload 2) 1 := so_iload_n E.2.2.1 rfl dX0_put_6
theorem oo_X0_put_7 {Γ : jΓ} {Q : jPost} (E : E_X0_put Γ Q) : jSA Γ Q 7 (o_putf 0 1) 3 := so_putf (ci := 0) E.2.2.1 tyX0 tyX0_ok nmX0 wi_X0_put_X0 (by rw [E.2.1]; rfl) 1 (by decide) wl_X0_put_13 rfl (by decide +kernel) dX0_put_7
theorem oo_X0_put_10 {Γ : jΓ} {Q : jPost} (E : E_X0_put Γ Q) : jSA Γ Q 10 (o_aload 0) 1 := so_aload_n E.2.2.1 rfl dX0_put_10
theorem oo_X0_put_11 {Γ : jΓ} {Q : jPost} (E : E_X0_put Γ Q) : jSA Γ Q 11 (o_iload 3) 1 := so_iload_n E.2.2.1 rfl dX0_put_11
theorem oo_X0_put_12 {Γ : jΓ} {Q : jPost} (E : E_X0_put Γ Q) : jSA Γ Q 12 (o_putf 0 2) 3 := so_putf (ci := 0) E.2.2.1 tyX0 tyX0_ok nmX0 wi_X0_put_X0 (by rw [E.2.1]; rfl) 2 (by decide) wl_X0_put_16 rfl (by decide +kernel) dX0_put_12
theorem oo_X0_put_15 {Γ : jΓ} {Q : jPost} (E : E_X0_put Γ Q) : jSA Γ Q 15 (o_aload 0) 1 := so_aload_n E.2.2.1 rfl dX0_put_15
theorem oo_X0_put_16 {Γ : jΓ} {Q : jPost} (E : E_X0_put Γ Q) : jSA Γ Q 16 (o_iload 4) 2 := so_iload E.2.2.1 dX0_put_16
theorem oo_X0_put_18 {Γ : jΓ} {Q : jPost} (E : E_X0_put Γ Q) : jSA Γ Q 18 (o_putf 0 3) 3 := so_putf (ci := 0) E.2.2.1 tyX0 tyX0_ok nmX0 wi_X0_put_X0 (by rw [E.2.1]; rfl) 3 (by decide) wl_X0_put_19 rfl (by decide +kernel) dX0_put_18
theorem oo_X0_put_21 {Γ : jΓ} {Q : jPost} (E : E_X0_put Γ Q) : jSA Γ Q 21 (o_vret) 1 := so_vret E.2.2.1 E.2.2.2 dX0_put_21
theorem ok_X0_put_0 {Γ : jΓ} {Q : jPost} (E : E_X0_put Γ Q) : jSS Γ Q 0 sg_X0_put_0 := ⟨oo_X0_put_0 E, oo_X0_put_1 E, oo_X0_put_2 E, oo_X0_put_5 E, oo_X0_put_6 E, oo_X0_put_7 E, oo_X0_put_10 E, oo_X0_put_11 E, oo_X0_put_12 E, oo_X0_put_15 E, oo_X0_put_16 E, oo_X0_put_18 E, oo_X0_put_21 E, trivial⟩
theorem okc_X0_put {Γ : jΓ} {Q : jPost} (E : E_X0_put Γ Q) (t : Nat) : jSS Γ Q t (cd_X0_put t) := by
  unfold cd_X0_put
  trivial
theorem m_X0_put_of (l : Launch) (hv : ∀ (G : jGt) (Q : jPost) (vs : List Value) (K : List jK) (h : jM), jHd cd_X0_put G Q sg_X0_put_0 0 → T_X0_put vs K h Q → (lg_sl vs).length ≤ 5 ∧ G 0 (jinit vs 5) [] K h 0 0) : jHolds vwCl l yX0_put wsX0_put 0 0 0 0 T_X0_put := by
  refine jMet (cc := cX0_put) (maxL := 5) (rt := none) (by decide +kernel) rfl (fun Γ Q vs K h hl hn hcl C hR hT => hv (jG Γ) Q vs K h ?_ hT)
  · exact fun n L st K h ce sl => jwp_ok (okc_X0_put ⟨hn, hcl, C, hR⟩) n sg_X0_put_0 0 (ok_X0_put_0 ⟨hn, hcl, C, hR⟩) L st K h ce sl
set_option maxHeartbeats 4000000 in
set_option maxRecDepth 100000 in
theorem v_X0_put {G : jGt} {Q : jPost} {K : List jK} {h : jM} {a : Nat} {x : Int32} {y : Int32} {d : Int32} {r : Int32} (hT : isAnt a ∧ jX K ∧ Q none K (upAnt h a x y d r)) (H0 : jHd cd_X0_put G Q sg_X0_put_0 0) : G 0 [some (.ref a), some (.int x), some (.int y), some (.int d), some (.int r)] [] K h 0 0 := by
  obtain ⟨ha, hX, hT⟩ := hT
  refine H0 30 _ _ _ _ _ _ ?_
  simp only [sg_X0_put_0, cd_X0_put, jwp, o_ic, o_lc, o_iload, o_lload, o_aload, o_istore, o_lstore, o_astore, o_iinc, o_pop, o_dup, o_dup2, o_iadd, o_isub, o_imul, o_iand, o_ior, o_ishl, o_ladd, o_lmul, o_land, o_lor, o_idiv, o_irem, o_ineg, o_i2l, o_l2i, o_i2b, o_i2s, o_lushr, o_lshr, o_lshl, o_lcmp, o_ifeq, o_ifne, o_iflt, o_ifge, o_ifgt, o_ifle, o_iceq, o_icne, o_iclt, o_icge, o_icgt, o_icle, o_goto, o_tsw, jsw, o_lsw, jlk, o_getf, o_putf, o_putz, o_iald, o_zald, o_iast, o_zast, o_aald, o_alen, o_gets, o_zld, o_zlen, o_cpy, o_call, o_callV, o_ireti, o_iretz, o_lret, o_vret, jg, js, jkp, jkill, jsp, jcs, jfw, jov, Value.category, Option.toList_some, Option.toList_none, List.nil_append, List.cons_append, List.append_nil, Nat.reduceAdd, true_and, and_true, jb0, jb01, jb1, Classical.not_not, forall_const, kxn_0 hX ha, kxn_1 hX ha, kxn_2 hX ha, kxn_3 hX ha]
  exact hT
theorem m_X0_put (l : Launch) : jHolds vwCl l yX0_put wsX0_put 0 0 0 0 T_X0_put := by
  refine m_X0_put_of l (fun G Q vs K h H0 hT => ?_)
  unfold T_X0_put at hT
  split at hT
  · skip
    exact ⟨Nat.le_of_ble_eq_true rfl, v_X0_put hT H0⟩
  · exact hT.elim

/-! X0_goesAs -/
def T_X0_goesAs : jT := fun vs K h Q => match vs with
  | [.ref a, .ref b] => (isAnt a ∧ isAnt b ∧ jX K ∧ Q (some (.int (jb (h a 2 = h b 2 ∧ h a 3 = h b 3)))) K h)
  | _ => False
def sg_X0_goesAs_0 : jS := [(o_aload 0, 1), (o_getf 0 2, 3), (o_aload 1, 1), (o_getf 0 2, 3), (o_icne 26, 3), (o_aload 0, 1), (o_getf 0 3, 3), (o_aload 1, 1), (o_getf 0 3, 3), (o_icne 26, 3), (o_ic (1), 1), (o_goto 27, 3)]
def sg_X0_goesAs_26 : jS := [(o_ic (0), 1), (o_iretz, 1)]
def sg_X0_goesAs_27 : jS := [(o_iretz, 1)]
def cd_X0_goesAs : Nat → jS := fun t => match t with
  | 26 => sg_X0_goesAs_26
  | 27 => sg_X0_goesAs_27
  | _ => []
theorem wl_X0_goesAs_16 : Cond.fieldLink RX0 16 (TX0 2).1 (TX0 2).2.1 (TX0 2).2.2.1 ∈ wsX0_goesAs := by decide +kernel
theorem wl_X0_goesAs_19 : Cond.fieldLink RX0 19 (TX0 3).1 (TX0 3).2.1 (TX0 3).2.2.1 ∈ wsX0_goesAs := by decide +kernel
theorem wi_X0_goesAs_X0 : ∀ w ∈ u_ws RX0 TX0 4, w ∈ wsX0_goesAs := by decide +kernel
def E_X0_goesAs (Γ : jΓ) (Q : jPost) : Prop := Γ.2.2.2.2.2.2.2.2.2.2.1 = 2 ∧ Γ.2.2.2.2.2.2.2.2.2.2.2.1 = vwCl ∧ jC Γ cX0_goesAs RX0 "goesAs" (some .boolean) wsX0_goesAs 0 0 0 0 ∧ jR Γ Q 0 0
theorem oo_X0_goesAs_0 {Γ : jΓ} {Q : jPost} (E : E_X0_goesAs Γ Q) : jSA Γ Q 0 (o_aload 0) 1 := so_aload_n E.2.2.1 rfl dX0_goesAs_0
theorem oo_X0_goesAs_1 {Γ : jΓ} {Q : jPost} (E : E_X0_goesAs Γ Q) : jSA Γ Q 1 (o_getf 0 2) 3 := so_getf (ci := 0) E.2.2.1 wi_X0_goesAs_X0 (by rw [E.2.1]; rfl) 2 (by decide) wl_X0_goesAs_16 dX0_goesAs_1
theorem oo_X0_goesAs_4 {Γ : jΓ} {Q : jPost} (E : E_X0_goesAs Γ Q) : jSA Γ Q 4 (o_aload 1) 1 := so_aload_n E.2.2.1 rfl dX0_goesAs_4
theorem oo_X0_goesAs_5 {Γ : jΓ} {Q : jPost} (E : E_X0_goesAs Γ Q) : jSA Γ Q 5 (o_getf 0 2) 3 := so_getf (ci := 0) E.2.2.1 wi_X0_goesAs_X0 (by rw [E.2.1]; rfl) 2 (by decide) wl_X0_goesAs_16 dX0_goesAs_5
theorem oo_X0_goesAs_8 {Γ : jΓ} {Q : jPost} (E : E_X0_goesAs Γ Q) : jSA Γ Q 8 (o_icne 26) 3 := so_icne E.2.2.1 (by decide) dX0_goesAs_8
theorem oo_X0_goesAs_11 {Γ : jΓ} {Q : jPost} (E : E_X0_goesAs Γ Q) : jSA Γ Q 11 (o_aload 0) 1 := so_aload_n E.2.2.1 rfl dX0_goesAs_11
theorem oo_X0_goesAs_12 {Γ : jΓ} {Q : jPost} (E : E_X0_goesAs Γ Q) : jSA Γ Q 12 (o_getf 0 3) 3 := so_getf (ci := 0) E.2.2.1 wi_X0_goesAs_X0 (by rw [E.2.1]; rfl) 3 (by decide) wl_X0_goesAs_19 dX0_goesAs_12
theorem oo_X0_goesAs_15 {Γ : jΓ} {Q : jPost} (E : E_X0_goesAs Γ Q) : jSA Γ Q 15 (o_aload 1) 1 := so_aload_n E.2.2.1 rfl dX0_goesAs_15
theorem oo_X0_goesAs_16 {Γ : jΓ} {Q : jPost} (E : E_X0_goesAs Γ Q) : jSA Γ Q 16 (o_getf 0 3) 3 := so_getf (ci := 0) E.2.2.1 wi_X0_goesAs_X0 (by rw [E.2.1]; rfl) 3 (by decide) wl_X0_goesAs_19 dX0_goesAs_16
theorem oo_X0_goesAs_19 {Γ : jΓ} {Q : jPost} (E : E_X0_goesAs Γ Q) : jSA Γ Q 19 (o_icne 26) 3 := so_icne E.2.2.1 (by decide) dX0_goesAs_19
theorem oo_X0_goesAs_22 {Γ : jΓ} {Q : jPost} (E : E_X0_goesAs Γ Q) : jSA Γ Q 22 (o_ic (1)) 1 := so_iconst E.2.2.1 rfl dX0_goesAs_22
theorem oo_X0_goesAs_23 {Γ : jΓ} {Q : jPost} (E : E_X0_goesAs Γ Q) : jSA Γ Q 23 (o_goto 27) 3 := so_goto E.2.2.1 (by decide) dX0_goesAs_23
theorem oo_X0_goesAs_26 {Γ : jΓ} {Q : jPost} (E : E_X0_goesAs Γ Q) : jSA Γ Q 26 (o_ic (0)) 1 := so_iconst E.2.2.1 rfl dX0_goesAs_26
theorem oo_X0_goesAs_27 {Γ : jΓ} {Q : jPost} (E : E_X0_goesAs Γ Q) : jSA Γ Q 27 (o_iretz) 1 := so_iretz E.2.2.1 E.2.2.2 dX0_goesAs_27
theorem ok_X0_goesAs_0 {Γ : jΓ} {Q : jPost} (E : E_X0_goesAs Γ Q) : jSS Γ Q 0 sg_X0_goesAs_0 := ⟨oo_X0_goesAs_0 E, oo_X0_goesAs_1 E, oo_X0_goesAs_4 E, oo_X0_goesAs_5 E, oo_X0_goesAs_8 E, oo_X0_goesAs_11 E, oo_X0_goesAs_12 E, oo_X0_goesAs_15 E, oo_X0_goesAs_16 E, oo_X0_goesAs_19 E, oo_X0_goesAs_22 E, oo_X0_goesAs_23 E, trivial⟩
theorem ok_X0_goesAs_26 {Γ : jΓ} {Q : jPost} (E : E_X0_goesAs Γ Q) : jSS Γ Q 26 sg_X0_goesAs_26 := ⟨oo_X0_goesAs_26 E, oo_X0_goesAs_27 E, trivial⟩
theorem ok_X0_goesAs_27 {Γ : jΓ} {Q : jPost} (E : E_X0_goesAs Γ Q) : jSS Γ Q 27 sg_X0_goesAs_27 := ⟨oo_X0_goesAs_27 E, trivial⟩
theorem okc_X0_goesAs {Γ : jΓ} {Q : jPost} (E : E_X0_goesAs Γ Q) (t : Nat) : jSS Γ Q t (cd_X0_goesAs t) := by
  unfold cd_X0_goesAs
  split
  · exact ok_X0_goesAs_26 E
  · exact ok_X0_goesAs_27 E
  · trivial
theorem m_X0_goesAs_of (l : Launch) (hv : ∀ (G : jGt) (Q : jPost) (vs : List Value) (K : List jK) (h : jM), jHd cd_X0_goesAs G Q sg_X0_goesAs_0 0 → T_X0_goesAs vs K h Q → (lg_sl vs).length ≤ 2 ∧ G 0 (jinit vs 2) [] K h 0 0) : jHolds vwCl l yX0_goesAs wsX0_goesAs 0 0 0 0 T_X0_goesAs := by
  refine jMet (cc := cX0_goesAs) (maxL := 2) (rt := (some .boolean)) (by decide +kernel) rfl (fun Γ Q vs K h hl hn hcl C hR hT => hv (jG Γ) Q vs K h ?_ hT)
  · exact fun n L st K h ce sl => jwp_ok (okc_X0_goesAs ⟨hn, hcl, C, hR⟩) n sg_X0_goesAs_0 0 (ok_X0_goesAs_0 ⟨hn, hcl, C, hR⟩) L st K h ce sl
set_option maxHeartbeats 4000000 in
set_option maxRecDepth 100000 in
theorem v_X0_goesAs {G : jGt} {Q : jPost} {K : List jK} {h : jM} {a : Nat} {b : Nat} (hT : isAnt a ∧ isAnt b ∧ jX K ∧ Q (some (.int (jb (h a 2 = h b 2 ∧ h a 3 = h b 3)))) K h) (H0 : jHd cd_X0_goesAs G Q sg_X0_goesAs_0 0) : G 0 [some (.ref a), some (.ref b)] [] K h 0 0 := by
  obtain ⟨ha, hb, hX, hT⟩ := hT
  refine H0 30 _ _ _ _ _ _ ?_
  simp only [sg_X0_goesAs_0, sg_X0_goesAs_26, sg_X0_goesAs_27, cd_X0_goesAs, jwp, o_ic, o_lc, o_iload, o_lload, o_aload, o_istore, o_lstore, o_astore, o_iinc, o_pop, o_dup, o_dup2, o_iadd, o_isub, o_imul, o_iand, o_ior, o_ishl, o_ladd, o_lmul, o_land, o_lor, o_idiv, o_irem, o_ineg, o_i2l, o_l2i, o_i2b, o_i2s, o_lushr, o_lshr, o_lshl, o_lcmp, o_ifeq, o_ifne, o_iflt, o_ifge, o_ifgt, o_ifle, o_iceq, o_icne, o_iclt, o_icge, o_icgt, o_icle, o_goto, o_tsw, jsw, o_lsw, jlk, o_getf, o_putf, o_putz, o_iald, o_zald, o_iast, o_zast, o_aald, o_alen, o_gets, o_zld, o_zlen, o_cpy, o_call, o_callV, o_ireti, o_iretz, o_lret, o_vret, jg, js, jkp, jkill, jsp, jcs, jfw, jov, Value.category, Option.toList_some, Option.toList_none, List.nil_append, List.cons_append, List.append_nil, Nat.reduceAdd, true_and, and_true, jb0, jb01, jb1, Classical.not_not, forall_const, kxn_0 hX ha, kxn_1 hX ha, kxn_2 hX ha, kxn_3 hX ha, kxn_0 hX hb, kxn_1 hX hb, kxn_2 hX hb, kxn_3 hX hb]
  unfold jb at hT
  grind
theorem m_X0_goesAs (l : Launch) : jHolds vwCl l yX0_goesAs wsX0_goesAs 0 0 0 0 T_X0_goesAs := by
  refine m_X0_goesAs_of l (fun G Q vs K h H0 hT => ?_)
  unfold T_X0_goesAs at hT
  split at hT
  · skip
    exact ⟨Nat.le_of_ble_eq_true rfl, v_X0_goesAs hT H0⟩
  · exact hT.elim

/-! X1_directions -/
/-- how many directions -/
def jdirs (h : jM) : Int32 := if h 1 0 = 1 then 6 else 4
def T_X1_directions : jT := fun vs K h Q => match vs with
  | [.ref r0] => r0 = 1 ∧ (jX K ∧ Q (some (.int (jdirs h))) K h)
  | _ => False
def sg_X1_directions_0 : jS := [(o_aload 0, 1), (o_getf 1 0, 3), (o_ic (1), 1), (o_icne 15, 3), (o_gets 2, 3), (o_zlen 2, 1), (o_goto 19, 3)]
def sg_X1_directions_15 : jS := [(o_gets 0, 3), (o_zlen 0, 1), (o_ireti, 1)]
def sg_X1_directions_19 : jS := [(o_ireti, 1)]
def cd_X1_directions : Nat → jS := fun t => match t with
  | 15 => sg_X1_directions_15
  | 19 => sg_X1_directions_19
  | _ => []
theorem wl_X1_directions_9 : Cond.fieldLink RX1 9 (TX1 0).1 (TX1 0).2.1 (TX1 0).2.2.1 ∈ wsX1_directions := by decide +kernel
theorem wi_X1_directions_X1 : ∀ w ∈ u_ws RX1 TX1 4, w ∈ wsX1_directions := by decide +kernel
def E_X1_directions (Γ : jΓ) (Q : jPost) : Prop := Γ.2.2.2.2.2.2.2.2.2.2.1 = 1 ∧ Γ.2.2.2.2.2.2.2.2.2.2.2.1 = vwCl ∧ jC Γ cX1_directions RX1 "directions" (some .int) wsX1_directions 0 0 0 0 ∧ jR Γ Q 0 0
theorem oo_X1_directions_0 {Γ : jΓ} {Q : jPost} (E : E_X1_directions Γ Q) : jSA Γ Q 0 (o_aload 0) 1 := so_aload_n E.2.2.1 rfl dX1_directions_0
theorem oo_X1_directions_1 {Γ : jΓ} {Q : jPost} (E : E_X1_directions Γ Q) : jSA Γ Q 1 (o_getf 1 0) 3 := so_getf (ci := 1) E.2.2.1 wi_X1_directions_X1 (by rw [E.2.1]; rfl) 0 (by decide) wl_X1_directions_9 dX1_directions_1
theorem oo_X1_directions_4 {Γ : jΓ} {Q : jPost} (E : E_X1_directions Γ Q) : jSA Γ Q 4 (o_ic (1)) 1 := so_iconst E.2.2.1 rfl dX1_directions_4
theorem oo_X1_directions_5 {Γ : jΓ} {Q : jPost} (E : E_X1_directions Γ Q) : jSA Γ Q 5 (o_icne 15) 3 := so_icne E.2.2.1 (by decide) dX1_directions_5
theorem oo_X1_directions_8 {Γ : jΓ} {Q : jPost} (E : E_X1_directions Γ Q) : jSA Γ Q 8 (o_gets 2) 3 := so_gets E.2.2.1 (by decide +kernel) dX1_directions_8
theorem oo_X1_directions_11 {Γ : jΓ} {Q : jPost} (E : E_X1_directions Γ Q) : jSA Γ Q 11 (o_zlen 2) 1 := so_zlen E.2.2.1 dX1_directions_11
theorem oo_X1_directions_12 {Γ : jΓ} {Q : jPost} (E : E_X1_directions Γ Q) : jSA Γ Q 12 (o_goto 19) 3 := so_goto E.2.2.1 (by decide) dX1_directions_12
theorem oo_X1_directions_15 {Γ : jΓ} {Q : jPost} (E : E_X1_directions Γ Q) : jSA Γ Q 15 (o_gets 0) 3 := so_gets E.2.2.1 (by decide +kernel) dX1_directions_15
theorem oo_X1_directions_18 {Γ : jΓ} {Q : jPost} (E : E_X1_directions Γ Q) : jSA Γ Q 18 (o_zlen 0) 1 := so_zlen E.2.2.1 dX1_directions_18
theorem oo_X1_directions_19 {Γ : jΓ} {Q : jPost} (E : E_X1_directions Γ Q) : jSA Γ Q 19 (o_ireti) 1 := so_ireti E.2.2.1 E.2.2.2 dX1_directions_19
theorem ok_X1_directions_0 {Γ : jΓ} {Q : jPost} (E : E_X1_directions Γ Q) : jSS Γ Q 0 sg_X1_directions_0 := ⟨oo_X1_directions_0 E, oo_X1_directions_1 E, oo_X1_directions_4 E, oo_X1_directions_5 E, oo_X1_directions_8 E, oo_X1_directions_11 E, oo_X1_directions_12 E, trivial⟩
theorem ok_X1_directions_15 {Γ : jΓ} {Q : jPost} (E : E_X1_directions Γ Q) : jSS Γ Q 15 sg_X1_directions_15 := ⟨oo_X1_directions_15 E, oo_X1_directions_18 E, oo_X1_directions_19 E, trivial⟩
theorem ok_X1_directions_19 {Γ : jΓ} {Q : jPost} (E : E_X1_directions Γ Q) : jSS Γ Q 19 sg_X1_directions_19 := ⟨oo_X1_directions_19 E, trivial⟩
theorem okc_X1_directions {Γ : jΓ} {Q : jPost} (E : E_X1_directions Γ Q) (t : Nat) : jSS Γ Q t (cd_X1_directions t) := by
  unfold cd_X1_directions
  split
  · exact ok_X1_directions_15 E
  · exact ok_X1_directions_19 E
  · trivial
theorem m_X1_directions_of (l : Launch) (hv : ∀ (G : jGt) (Q : jPost) (vs : List Value) (K : List jK) (h : jM), jHd cd_X1_directions G Q sg_X1_directions_0 0 → T_X1_directions vs K h Q → (lg_sl vs).length ≤ 1 ∧ G 0 (jinit vs 1) [] K h 0 0) : jHolds vwCl l yX1_directions wsX1_directions 0 0 0 0 T_X1_directions := by
  refine jMet (cc := cX1_directions) (maxL := 1) (rt := (some .int)) (by decide +kernel) rfl (fun Γ Q vs K h hl hn hcl C hR hT => hv (jG Γ) Q vs K h ?_ hT)
  · exact fun n L st K h ce sl => jwp_ok (okc_X1_directions ⟨hn, hcl, C, hR⟩) n sg_X1_directions_0 0 (ok_X1_directions_0 ⟨hn, hcl, C, hR⟩) L st K h ce sl
set_option maxHeartbeats 4000000 in
set_option maxRecDepth 100000 in
theorem v_X1_directions {G : jGt} {Q : jPost} {K : List jK} {h : jM}  (hT : jX K ∧ Q (some (.int (jdirs h))) K h) (H0 : jHd cd_X1_directions G Q sg_X1_directions_0 0) : G 0 [some (.ref 1)] [] K h 0 0 := by
  obtain ⟨hX, hT⟩ := hT
  refine H0 30 _ _ _ _ _ _ ?_
  simp only [sg_X1_directions_0, sg_X1_directions_15, sg_X1_directions_19, cd_X1_directions, jwp, o_ic, o_lc, o_iload, o_lload, o_aload, o_istore, o_lstore, o_astore, o_iinc, o_pop, o_dup, o_dup2, o_iadd, o_isub, o_imul, o_iand, o_ior, o_ishl, o_ladd, o_lmul, o_land, o_lor, o_idiv, o_irem, o_ineg, o_i2l, o_l2i, o_i2b, o_i2s, o_lushr, o_lshr, o_lshl, o_lcmp, o_ifeq, o_ifne, o_iflt, o_ifge, o_ifgt, o_ifle, o_iceq, o_icne, o_iclt, o_icge, o_icgt, o_icle, o_goto, o_tsw, jsw, o_lsw, jlk, o_getf, o_putf, o_putz, o_iald, o_zald, o_iast, o_zast, o_aald, o_alen, o_gets, o_zld, o_zlen, o_cpy, o_call, o_callV, o_ireti, o_iretz, o_lret, o_vret, jg, js, jkp, jkill, jsp, jcs, jfw, jov, Value.category, Option.toList_some, Option.toList_none, List.nil_append, List.cons_append, List.append_nil, Nat.reduceAdd, true_and, and_true, jb0, jb01, jb1, Classical.not_not, forall_const, kx_0_0 hX, kx_0_1 hX, kx_0_2 hX, kx_0_3 hX, kx_0_4 hX, kx_0_5 hX, kx_0_6 hX, kx_0_7 hX, kx_0_8 hX, kxo_0 hX, kx_1_0 hX, kx_1_1 hX, kx_1_2 hX, kx_1_3 hX, kxo_1 hX, kx_4_0 hX, kx_4_1 hX, kx_4_2 hX, kxo_4 hX, kx_19_0 hX, kx_19_1 hX, kx_19_2 hX, kx_19_3 hX, kx_19_4 hX, kxo_19 hX, kx_24_0 hX, kx_24_1 hX, kx_24_2 hX, kx_24_3 hX, kx_24_4 hX, kx_24_5 hX, kx_24_6 hX, kxo_24 hX, kxa_2 hX, kxa_3 hX, kxa_6 hX, kxa_7 hX, kxa_8 hX, kxa_9 hX, kxa_10 hX, kxa_18 hX, kxa_20 hX, kxa_21 hX, kxa_22 hX, kxa_23 hX, kxa_26 hX, kxa_27 hX, kxr_5 hX, kxr_11 hX, kxr_28 hX]
  unfold jdirs at hT
  refine ⟨fun c => ?_, fun c => ?_⟩
  · rw [if_neg c] at hT
    exact ⟨by decide, by decide, hT⟩
  · rw [if_pos c] at hT
    exact ⟨by decide, by decide, hT⟩
theorem m_X1_directions (l : Launch) : jHolds vwCl l yX1_directions wsX1_directions 0 0 0 0 T_X1_directions := by
  refine m_X1_directions_of l (fun G Q vs K h H0 hT => ?_)
  unfold T_X1_directions at hT
  split at hT
  · obtain ⟨rfl, hT⟩ := hT
    exact ⟨Nat.le_of_ble_eq_true rfl, v_X1_directions hT H0⟩
  · exact hT.elim
