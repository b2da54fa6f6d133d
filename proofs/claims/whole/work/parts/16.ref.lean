/-! ===== the reference: what is small ===== -/
theorem jce {x y : Int32} (h : onF x y) : 240 * (y + 120) + x + 120 = jpl x y := by
  have h1 := jpl_int h
  obtain ⟨⟨b1, b2⟩, b3, b4⟩ := onF_int h
  apply Int32.toInt_inj.mp
  have e1 : (y + 120).toInt = y.toInt + 120 := ti_add (by show _ ≤ _ + (120 : Int); omega) (by show _ + (120 : Int) < _; omega)
  have e2 : (240 * (y + 120)).toInt = 240 * (y.toInt + 120) := by
    rw [ti_mul (by rw [e1]; show _ ≤ (240 : Int) * _; omega) (by rw [e1]; show (240 : Int) * _ < _; omega), e1]; rfl
  have e3 : (240 * (y + 120) + x).toInt = 240 * (y.toInt + 120) + x.toInt := by rw [ti_add (by rw [e2]; omega) (by rw [e2]; omega), e2]
  have e4 : (240 * (y + 120) + x + 120).toInt = 240 * (y.toInt + 120) + x.toInt + 120 := by
    rw [ti_add (by rw [e3]; show _ ≤ _ + (120 : Int); omega) (by rw [e3]; show _ + (120 : Int) < _; omega), e3]; rfl
  rw [e4, h1]; omega

/-! X7_in -/
def T_X7_in : jT := fun vs K h Q => match vs with
  | [.int v, .int lo, .int hi] => (Q (some (.int (jb (lo ≤ v ∧ v ≤ hi)))) K h)
  | _ => False
def sg_X7_in_0 : jS := [(o_iload 0, 1), (o_iload 1, 1), (o_iclt 14, 3), (o_iload 0, 1), (o_iload 2, 1), (o_icgt 14, 3), (o_ic (1), 1), (o_goto 15, 3)]
def sg_X7_in_14 : jS := [(o_ic (0), 1), (o_iretz, 1)]
def sg_X7_in_15 : jS := [(o_iretz, 1)]
def cd_X7_in : Nat → jS := fun t => match t with
  | 14 => sg_X7_in_14
  | 15 => sg_X7_in_15
  | _ => []
def E_X7_in (Γ : jΓ) (Q : jPost) : Prop := Γ.2.2.2.2.2.2.2.2.2.2.1 = 3 ∧ Γ.2.2.2.2.2.2.2.2.2.2.2.1 = vwCl ∧ jC Γ cX7_in RX7 "in" (some .boolean) wsX7_in 0 0 0 0 ∧ jR Γ Q 0 0
theorem oo_X7_in_0 {Γ : jΓ} {Q : jPost} (E : E_X7_in Γ Q) : jSA Γ Q 0 (o_iload 0) 1 := so_iload_n E.2.2.1 rfl dX7_in_0
theorem oo_X7_in_1 {Γ : jΓ} {Q : jPost} (E : E_X7_in Γ Q) : jSA Γ Q 1 (o_iload 1) 1 := so_iload_n E.2.2.1 rfl dX7_in_1
theorem oo_X7_in_2 {Γ : jΓ} {Q : jPost} (E : E_X7_in Γ Q) : jSA Γ Q 2 (o_iclt 14) 3 := so_iclt E.2.2.1 (by decide) dX7_in_2
theorem oo_X7_in_5 {Γ : jΓ} {Q : jPost} (E : E_X7_in Γ Q) : jSA Γ Q 5 (o_iload 0) 1 := so_iload_n E.2.2.1 rfl dX7_in_5
theorem oo_X7_in_6 {Γ : jΓ} {Q : jPost} (E : E_X7_in Γ Q) : jSA Γ Q 6 (o_iload 2) 1 := so_iload_n E.2.2.1 rfl dX7_in_6
theorem oo_X7_in_7 {Γ : jΓ} {Q : jPost} (E : E_X7_in Γ Q) : jSA Γ Q 7 (o_icgt 14) 3 := so_icgt E.2.2.1 (by decide) dX7_in_7
theorem oo_X7_in_10 {Γ : jΓ} {Q : jPost} (E : E_X7_in Γ Q) : jSA Γ Q 10 (o_ic (1)) 1 := so_iconst E.2.2.1 rfl dX7_in_10
theorem oo_X7_in_11 {Γ : jΓ} {Q : jPost} (E : E_X7_in Γ Q) : jSA Γ Q 11 (o_goto 15) 3 := so_goto E.2.2.1 (by decide) dX7_in_11
theorem oo_X7_in_14 {Γ : jΓ} {Q : jPost} (E : E_X7_in Γ Q) : jSA Γ Q 14 (o_ic (0)) 1 := so_iconst E.2.2.1 rfl dX7_in_14
theorem oo_X7_in_15 {Γ : jΓ} {Q : jPost} (E : E_X7_in Γ Q) : jSA Γ Q 15 (o_iretz) 1 := so_iretz E.2.2.1 E.2.2.2 dX7_in_15
theorem ok_X7_in_0 {Γ : jΓ} {Q : jPost} (E : E_X7_in Γ Q) : jSS Γ Q 0 sg_X7_in_0 := ⟨oo_X7_in_0 E, oo_X7_in_1 E, oo_X7_in_2 E, oo_X7_in_5 E, oo_X7_in_6 E, oo_X7_in_7 E, oo_X7_in_10 E, oo_X7_in_11 E, trivial⟩
theorem ok_X7_in_14 {Γ : jΓ} {Q : jPost} (E : E_X7_in Γ Q) : jSS Γ Q 14 sg_X7_in_14 := ⟨oo_X7_in_14 E, oo_X7_in_15 E, trivial⟩
theorem ok_X7_in_15 {Γ : jΓ} {Q : jPost} (E : E_X7_in Γ Q) : jSS Γ Q 15 sg_X7_in_15 := ⟨oo_X7_in_15 E, trivial⟩
theorem okc_X7_in {Γ : jΓ} {Q : jPost} (E : E_X7_in Γ Q) (t : Nat) : jSS Γ Q t (cd_X7_in t) := by
  unfold cd_X7_in
  split
  · exact ok_X7_in_14 E
  · exact ok_X7_in_15 E
  · trivial
theorem m_X7_in_of (l : Launch) (hv : ∀ (G : jGt) (Q : jPost) (vs : List Value) (K : List jK) (h : jM), jHd cd_X7_in G Q sg_X7_in_0 0 → T_X7_in vs K h Q → (lg_sl vs).length ≤ 3 ∧ G 0 (jinit vs 3) [] K h 0 0) : jHolds vwCl l yX7_in wsX7_in 0 0 0 0 T_X7_in := by
  refine jMet (cc := cX7_in) (maxL := 3) (rt := (some .boolean)) (by decide +kernel) rfl (fun Γ Q vs K h hl hn hcl C hR hT => hv (jG Γ) Q vs K h ?_ hT)
  · exact fun n L st K h ce sl => jwp_ok (okc_X7_in ⟨hn, hcl, C, hR⟩) n sg_X7_in_0 0 (ok_X7_in_0 ⟨hn, hcl, C, hR⟩) L st K h ce sl
set_option maxHeartbeats 4000000 in
set_option maxRecDepth 100000 in
theorem v_X7_in {G : jGt} {Q : jPost} {K : List jK} {h : jM} {v : Int32} {lo : Int32} {hi : Int32} (hT : Q (some (.int (jb (lo ≤ v ∧ v ≤ hi)))) K h) (H0 : jHd cd_X7_in G Q sg_X7_in_0 0) : G 0 [some (.int v), some (.int lo), some (.int hi)] [] K h 0 0 := by
  refine H0 20 _ _ _ _ _ _ ?_
  simp only [sg_X7_in_0, sg_X7_in_14, sg_X7_in_15, cd_X7_in, jwp, o_ic, o_lc, o_iload, o_lload, o_aload, o_istore, o_lstore, o_astore, o_iinc, o_pop, o_dup, o_dup2, o_iadd, o_isub, o_imul, o_iand, o_ior, o_ishl, o_ladd, o_lmul, o_land, o_lor, o_idiv, o_irem, o_ineg, o_i2l, o_l2i, o_i2b, o_i2s, o_lushr, o_lshr, o_lshl, o_lcmp, o_ifeq, o_ifne, o_iflt, o_ifge, o_ifgt, o_ifle, o_iceq, o_icne, o_iclt, o_icge, o_icgt, o_icle, o_goto, o_tsw, jsw, o_lsw, jlk, o_getf, o_putf, o_putz, o_iald, o_zald, o_iast, o_zast, o_aald, o_alen, o_gets, o_zld, o_zlen, o_cpy, o_call, o_callV, o_ireti, o_iretz, o_lret, o_vret, jg, js, jkp, jkill, jsp, jcs, jfw, jov, Value.category, Option.toList_some, Option.toList_none, List.nil_append, List.cons_append, List.append_nil, Nat.reduceAdd, true_and, and_true, jb0, jb01, jb1, jem, true_or, or_true, Classical.not_not, forall_const, List.length_cons, List.length_nil, Nat.reduceLeDiff, Nat.zero_le, Nat.reduceLT]
  unfold jb at hT
  grind
theorem m_X7_in (l : Launch) : jHolds vwCl l yX7_in wsX7_in 0 0 0 0 T_X7_in := by
  refine m_X7_in_of l (fun G Q vs K h H0 hT => ?_)
  unfold T_X7_in at hT
  split at hT
  · skip
    exact ⟨Nat.le_of_ble_eq_true rfl, v_X7_in hT H0⟩
  · exact hT.elim

/-! X7_isCell -/
def T_X7_isCell : jT := fun vs K h Q => match vs with
  | [.int x, .int y] => (Q (some (.int (jb (onF x y)))) K h)
  | _ => False
def sg_X7_isCell_0 : jS := [(o_iload 0, 1), (o_ic (-120), 2), (o_ic (119), 2), (o_call 3 T_X7_in, 3), (o_ifeq 26, 3), (o_iload 1, 1), (o_ic (-120), 2), (o_ic (119), 2), (o_call 3 T_X7_in, 3), (o_ifeq 26, 3), (o_ic (1), 1), (o_goto 27, 3)]
def sg_X7_isCell_26 : jS := [(o_ic (0), 1), (o_iretz, 1)]
def sg_X7_isCell_27 : jS := [(o_iretz, 1)]
def cd_X7_isCell : Nat → jS := fun t => match t with
  | 26 => sg_X7_isCell_26
  | 27 => sg_X7_isCell_27
  | _ => []
def E_X7_isCell (Γ : jΓ) (Q : jPost) : Prop := Γ.2.2.2.2.2.2.2.2.2.2.1 = 2 ∧ Γ.2.2.2.2.2.2.2.2.2.2.2.1 = vwCl ∧ jC Γ cX7_isCell RX7 "isCell" (some .boolean) wsX7_isCell 1 22 0 0 ∧ jR Γ Q 0 0
theorem oo_X7_isCell_0 {Γ : jΓ} {Q : jPost} (E : E_X7_isCell Γ Q) : jSA Γ Q 0 (o_iload 0) 1 := so_iload_n E.2.2.1 rfl dX7_isCell_0
theorem oo_X7_isCell_1 {Γ : jΓ} {Q : jPost} (E : E_X7_isCell Γ Q) : jSA Γ Q 1 (o_ic (-120)) 2 := so_bipush E.2.2.1 rfl dX7_isCell_1
theorem oo_X7_isCell_3 {Γ : jΓ} {Q : jPost} (E : E_X7_isCell Γ Q) : jSA Γ Q 3 (o_ic (119)) 2 := so_bipush E.2.2.1 rfl dX7_isCell_3
theorem oo_X7_isCell_5 {Γ : jΓ} {Q : jPost} (E : E_X7_isCell Γ Q) : jSA Γ Q 5 (o_call 3 T_X7_in) 3 := so_callS E.2.2.1 gX7_isCell_X7_in (by decide +kernel) rfl (by rw [E.2.1]; exact m_X7_in _) (by decide) (by decide) dX7_isCell_5
theorem oo_X7_isCell_8 {Γ : jΓ} {Q : jPost} (E : E_X7_isCell Γ Q) : jSA Γ Q 8 (o_ifeq 26) 3 := so_ifeq E.2.2.1 (by decide) dX7_isCell_8
theorem oo_X7_isCell_11 {Γ : jΓ} {Q : jPost} (E : E_X7_isCell Γ Q) : jSA Γ Q 11 (o_iload 1) 1 := so_iload_n E.2.2.1 rfl dX7_isCell_11
theorem oo_X7_isCell_12 {Γ : jΓ} {Q : jPost} (E : E_X7_isCell Γ Q) : jSA Γ Q 12 (o_ic (-120)) 2 := so_bipush E.2.2.1 rfl dX7_isCell_12
theorem oo_X7_isCell_14 {Γ : jΓ} {Q : jPost} (E : E_X7_isCell Γ Q) : jSA Γ Q 14 (o_ic (119)) 2 := so_bipush E.2.2.1 rfl dX7_isCell_14
theorem oo_X7_isCell_16 {Γ : jΓ} {Q : jPost} (E : E_X7_isCell Γ Q) : jSA Γ Q 16 (o_call 3 T_X7_in) 3 := so_callS E.2.2.1 gX7_isCell_X7_in (by decide +kernel) rfl (by rw [E.2.1]; exact m_X7_in _) (by decide) (by decide) dX7_isCell_16
theorem oo_X7_isCell_19 {Γ : jΓ} {Q : jPost} (E : E_X7_isCell Γ Q) : jSA Γ Q 19 (o_ifeq 26) 3 := so_ifeq E.2.2.1 (by decide) dX7_isCell_19
theorem oo_X7_isCell_22 {Γ : jΓ} {Q : jPost} (E : E_X7_isCell Γ Q) : jSA Γ Q 22 (o_ic (1)) 1 := so_iconst E.2.2.1 rfl dX7_isCell_22
theorem oo_X7_isCell_23 {Γ : jΓ} {Q : jPost} (E : E_X7_isCell Γ Q) : jSA Γ Q 23 (o_goto 27) 3 := so_goto E.2.2.1 (by decide) dX7_isCell_23
theorem oo_X7_isCell_26 {Γ : jΓ} {Q : jPost} (E : E_X7_isCell Γ Q) : jSA Γ Q 26 (o_ic (0)) 1 := so_iconst E.2.2.1 rfl dX7_isCell_26
theorem oo_X7_isCell_27 {Γ : jΓ} {Q : jPost} (E : E_X7_isCell Γ Q) : jSA Γ Q 27 (o_iretz) 1 := so_iretz E.2.2.1 E.2.2.2 dX7_isCell_27
theorem ok_X7_isCell_0 {Γ : jΓ} {Q : jPost} (E : E_X7_isCell Γ Q) : jSS Γ Q 0 sg_X7_isCell_0 := ⟨oo_X7_isCell_0 E, oo_X7_isCell_1 E, oo_X7_isCell_3 E, oo_X7_isCell_5 E, oo_X7_isCell_8 E, oo_X7_isCell_11 E, oo_X7_isCell_12 E, oo_X7_isCell_14 E, oo_X7_isCell_16 E, oo_X7_isCell_19 E, oo_X7_isCell_22 E, oo_X7_isCell_23 E, trivial⟩
theorem ok_X7_isCell_26 {Γ : jΓ} {Q : jPost} (E : E_X7_isCell Γ Q) : jSS Γ Q 26 sg_X7_isCell_26 := ⟨oo_X7_isCell_26 E, oo_X7_isCell_27 E, trivial⟩
theorem ok_X7_isCell_27 {Γ : jΓ} {Q : jPost} (E : E_X7_isCell Γ Q) : jSS Γ Q 27 sg_X7_isCell_27 := ⟨oo_X7_isCell_27 E, trivial⟩
theorem okc_X7_isCell {Γ : jΓ} {Q : jPost} (E : E_X7_isCell Γ Q) (t : Nat) : jSS Γ Q t (cd_X7_isCell t) := by
  unfold cd_X7_isCell
  split
  · exact ok_X7_isCell_26 E
  · exact ok_X7_isCell_27 E
  · trivial
theorem m_X7_isCell_of (l : Launch) (hv : ∀ (G : jGt) (Q : jPost) (vs : List Value) (K : List jK) (h : jM), jHd cd_X7_isCell G Q sg_X7_isCell_0 0 → T_X7_isCell vs K h Q → (lg_sl vs).length ≤ 2 ∧ G 0 (jinit vs 2) [] K h 0 0) : jHolds vwCl l yX7_isCell wsX7_isCell 1 22 0 0 T_X7_isCell := by
  refine jMet (cc := cX7_isCell) (maxL := 2) (rt := (some .boolean)) (by decide +kernel) rfl (fun Γ Q vs K h hl hn hcl C hR hT => hv (jG Γ) Q vs K h ?_ hT)
  · exact fun n L st K h ce sl => jwp_ok (okc_X7_isCell ⟨hn, hcl, C, hR⟩) n sg_X7_isCell_0 0 (ok_X7_isCell_0 ⟨hn, hcl, C, hR⟩) L st K h ce sl
set_option maxHeartbeats 4000000 in
set_option maxRecDepth 100000 in
theorem v_X7_isCell {G : jGt} {Q : jPost} {K : List jK} {h : jM} {x : Int32} {y : Int32} (hT : Q (some (.int (jb (onF x y)))) K h) (H0 : jHd cd_X7_isCell G Q sg_X7_isCell_0 0) : G 0 [some (.int x), some (.int y)] [] K h 0 0 := by
  refine H0 40 _ _ _ _ _ _ ?_
  simp only [sg_X7_isCell_0, sg_X7_isCell_26, sg_X7_isCell_27, cd_X7_isCell, jwp, o_ic, o_lc, o_iload, o_lload, o_aload, o_istore, o_lstore, o_astore, o_iinc, o_pop, o_dup, o_dup2, o_iadd, o_isub, o_imul, o_iand, o_ior, o_ishl, o_ladd, o_lmul, o_land, o_lor, o_idiv, o_irem, o_ineg, o_i2l, o_l2i, o_i2b, o_i2s, o_lushr, o_lshr, o_lshl, o_lcmp, o_ifeq, o_ifne, o_iflt, o_ifge, o_ifgt, o_ifle, o_iceq, o_icne, o_iclt, o_icge, o_icgt, o_icle, o_goto, o_tsw, jsw, o_lsw, jlk, o_getf, o_putf, o_putz, o_iald, o_zald, o_iast, o_zast, o_aald, o_alen, o_gets, o_zld, o_zlen, o_cpy, o_call, o_callV, o_ireti, o_iretz, o_lret, o_vret, jg, js, jkp, jkill, jsp, jcs, jfw, jov, Value.category, Option.toList_some, Option.toList_none, List.nil_append, List.cons_append, List.append_nil, Nat.reduceAdd, true_and, and_true, jb0, jb01, jb1, jem, true_or, or_true, Classical.not_not, forall_const, List.length_cons, List.length_nil, Nat.reduceLeDiff, Nat.zero_le, Nat.reduceLT, T_X7_in]
  unfold jb onF at hT
  grind
theorem m_X7_isCell (l : Launch) : jHolds vwCl l yX7_isCell wsX7_isCell 1 22 0 0 T_X7_isCell := by
  refine m_X7_isCell_of l (fun G Q vs K h H0 hT => ?_)
  unfold T_X7_isCell at hT
  split at hT
  · skip
    exact ⟨Nat.le_of_ble_eq_true rfl, v_X7_isCell hT H0⟩
  · exact hT.elim

/-! X7_cell -/
def T_X7_cell : jT := fun vs K h Q => match vs with
  | [.int x, .int y] => (onF x y ∧ Q (some (.int (jpl x y))) K h)
  | _ => False
def sg_X7_cell_0 : jS := [(o_ic (240), 3), (o_iload 1, 1), (o_ic (120), 2), (o_iadd, 1), (o_imul, 1), (o_iload 0, 1), (o_iadd, 1), (o_ic (120), 2), (o_iadd, 1), (o_ireti, 1)]
def cd_X7_cell : Nat → jS := fun t => match t with
  | _ => []
def E_X7_cell (Γ : jΓ) (Q : jPost) : Prop := Γ.2.2.2.2.2.2.2.2.2.2.1 = 2 ∧ Γ.2.2.2.2.2.2.2.2.2.2.2.1 = vwCl ∧ jC Γ cX7_cell RX7 "cell" (some .int) wsX7_cell 0 0 0 0 ∧ jR Γ Q 0 0
theorem oo_X7_cell_0 {Γ : jΓ} {Q : jPost} (E : E_X7_cell Γ Q) : jSA Γ Q 0 (o_ic (240)) 3 := so_sipush E.2.2.1 rfl dX7_cell_0
theorem oo_X7_cell_3 {Γ : jΓ} {Q : jPost} (E : E_X7_cell Γ Q) : jSA Γ Q 3 (o_iload 1) 1 := so_iload_n E.2.2.1 rfl dX7_cell_3
theorem oo_X7_cell_4 {Γ : jΓ} {Q : jPost} (E : E_X7_cell Γ Q) : jSA Γ Q 4 (o_ic (120)) 2 := so_bipush E.2.2.1 rfl dX7_cell_4
theorem oo_X7_cell_6 {Γ : jΓ} {Q : jPost} (E : E_X7_cell Γ Q) : jSA Γ Q 6 (o_iadd) 1 := so_iadd E.2.2.1 dX7_cell_6
theorem oo_X7_cell_7 {Γ : jΓ} {Q : jPost} (E : E_X7_cell Γ Q) : jSA Γ Q 7 (o_imul) 1 := so_imul E.2.2.1 dX7_cell_7
theorem oo_X7_cell_8 {Γ : jΓ} {Q : jPost} (E : E_X7_cell Γ Q) : jSA Γ Q 8 (o_iload 0) 1 := so_iload_n E.2.2.1 rfl dX7_cell_8
theorem oo_X7_cell_9 {Γ : jΓ} {Q : jPost} (E : E_X7_cell Γ Q) : jSA Γ Q 9 (o_iadd) 1 := so_iadd E.2.2.1 dX7_cell_9
theorem oo_X7_cell_10 {Γ : jΓ} {Q : jPost} (E : E_X7_cell Γ Q) : jSA Γ Q 10 (o_ic (120)) 2 := so_bipush E.2.2.1 rfl dX7_cell_10
theorem oo_X7_cell_12 {Γ : jΓ} {Q : jPost} (E : E_X7_cell Γ Q) : jSA Γ Q 12 (o_iadd) 1 := so_iadd E.2.2.1 dX7_cell_12
theorem oo_X7_cell_13 {Γ : jΓ} {Q : jPost} (E : E_X7_cell Γ Q) : jSA Γ Q 13 (o_ireti) 1 := so_ireti E.2.2.1 E.2.2.2 dX7_cell_13
theorem ok_X7_cell_0 {Γ : jΓ} {Q : jPost} (E : E_X7_cell Γ Q) : jSS Γ Q 0 sg_X7_cell_0 := ⟨oo_X7_cell_0 E, oo_X7_cell_3 E, oo_X7_cell_4 E, oo_X7_cell_6 E, oo_X7_cell_7 E, oo_X7_cell_8 E, oo_X7_cell_9 E, oo_X7_cell_10 E, oo_X7_cell_12 E, oo_X7_cell_13 E, trivial⟩
theorem okc_X7_cell {Γ : jΓ} {Q : jPost} (E : E_X7_cell Γ Q) (t : Nat) : jSS Γ Q t (cd_X7_cell t) := by
  unfold cd_X7_cell
  trivial
theorem m_X7_cell_of (l : Launch) (hv : ∀ (G : jGt) (Q : jPost) (vs : List Value) (K : List jK) (h : jM), jHd cd_X7_cell G Q sg_X7_cell_0 0 → T_X7_cell vs K h Q → (lg_sl vs).length ≤ 2 ∧ G 0 (jinit vs 2) [] K h 0 0) : jHolds vwCl l yX7_cell wsX7_cell 0 0 0 0 T_X7_cell := by
  refine jMet (cc := cX7_cell) (maxL := 2) (rt := (some .int)) (by decide +kernel) rfl (fun Γ Q vs K h hl hn hcl C hR hT => hv (jG Γ) Q vs K h ?_ hT)
  · exact fun n L st K h ce sl => jwp_ok (okc_X7_cell ⟨hn, hcl, C, hR⟩) n sg_X7_cell_0 0 (ok_X7_cell_0 ⟨hn, hcl, C, hR⟩) L st K h ce sl
set_option maxHeartbeats 4000000 in
set_option maxRecDepth 100000 in
theorem v_X7_cell {G : jGt} {Q : jPost} {K : List jK} {h : jM} {x : Int32} {y : Int32} (hT : onF x y ∧ Q (some (.int (jpl x y))) K h) (H0 : jHd cd_X7_cell G Q sg_X7_cell_0 0) : G 0 [some (.int x), some (.int y)] [] K h 0 0 := by
  obtain ⟨hon, hT⟩ := hT
  rw [← jce hon] at hT
  refine H0 40 _ _ _ _ _ _ ?_
  simp only [sg_X7_cell_0, cd_X7_cell, jwp, o_ic, o_lc, o_iload, o_lload, o_aload, o_istore, o_lstore, o_astore, o_iinc, o_pop, o_dup, o_dup2, o_iadd, o_isub, o_imul, o_iand, o_ior, o_ishl, o_ladd, o_lmul, o_land, o_lor, o_idiv, o_irem, o_ineg, o_i2l, o_l2i, o_i2b, o_i2s, o_lushr, o_lshr, o_lshl, o_lcmp, o_ifeq, o_ifne, o_iflt, o_ifge, o_ifgt, o_ifle, o_iceq, o_icne, o_iclt, o_icge, o_icgt, o_icle, o_goto, o_tsw, jsw, o_lsw, jlk, o_getf, o_putf, o_putz, o_iald, o_zald, o_iast, o_zast, o_aald, o_alen, o_gets, o_zld, o_zlen, o_cpy, o_call, o_callV, o_ireti, o_iretz, o_lret, o_vret, jg, js, jkp, jkill, jsp, jcs, jfw, jov, Value.category, Option.toList_some, Option.toList_none, List.nil_append, List.cons_append, List.append_nil, Nat.reduceAdd, true_and, and_true, jb0, jb01, jb1, jem, true_or, or_true, Classical.not_not, forall_const, List.length_cons, List.length_nil, Nat.reduceLeDiff, Nat.zero_le, Nat.reduceLT]
  exact hT
theorem m_X7_cell (l : Launch) : jHolds vwCl l yX7_cell wsX7_cell 0 0 0 0 T_X7_cell := by
  refine m_X7_cell_of l (fun G Q vs K h H0 hT => ?_)
  unfold T_X7_cell at hT
  split at hT
  · skip
    exact ⟨Nat.le_of_ble_eq_true rfl, v_X7_cell hT H0⟩
  · exact hT.elim

/-! X7_directions -/
def jdM (h : jM) : Int32 := if h 37 0 = 0 then 4 else 6
def T_X7_directions : jT := fun vs K h Q => match vs with
  | [.ref r0] => r0 = 37 ∧ (jXM K ∧ Q (some (.int (jdM h))) K h)
  | _ => False
def sg_X7_directions_0 : jS := [(o_aload 0, 1), (o_getf 7 0, 3), (o_ifne 11, 3), (o_ic (4), 1), (o_goto 13, 3)]
def sg_X7_directions_11 : jS := [(o_ic (6), 2), (o_ireti, 1)]
def sg_X7_directions_13 : jS := [(o_ireti, 1)]
def cd_X7_directions : Nat → jS := fun t => match t with
  | 11 => sg_X7_directions_11
  | 13 => sg_X7_directions_13
  | _ => []
theorem wl_X7_directions_77 : Cond.fieldLink RX7 77 (TX7 0).1 (TX7 0).2.1 (TX7 0).2.2.1 ∈ wsX7_directions := by decide +kernel
theorem wi_X7_directions_X7 : ∀ w ∈ u_ws RX7 TX7 33, w ∈ wsX7_directions := by decide +kernel
def E_X7_directions (Γ : jΓ) (Q : jPost) : Prop := Γ.2.2.2.2.2.2.2.2.2.2.1 = 1 ∧ Γ.2.2.2.2.2.2.2.2.2.2.2.1 = vwCl ∧ jC Γ cX7_directions RX7 "directions" (some .int) wsX7_directions 0 0 0 0 ∧ jR Γ Q 0 0
theorem oo_X7_directions_0 {Γ : jΓ} {Q : jPost} (E : E_X7_directions Γ Q) : jSA Γ Q 0 (o_aload 0) 1 := so_aload_n E.2.2.1 rfl dX7_directions_0
theorem oo_X7_directions_1 {Γ : jΓ} {Q : jPost} (E : E_X7_directions Γ Q) : jSA Γ Q 1 (o_getf 7 0) 3 := so_getf (ci := 7) E.2.2.1 wi_X7_directions_X7 (by rw [E.2.1]; rfl) 0 (by decide) wl_X7_directions_77 dX7_directions_1
theorem oo_X7_directions_4 {Γ : jΓ} {Q : jPost} (E : E_X7_directions Γ Q) : jSA Γ Q 4 (o_ifne 11) 3 := so_ifne E.2.2.1 (by decide) dX7_directions_4
theorem oo_X7_directions_7 {Γ : jΓ} {Q : jPost} (E : E_X7_directions Γ Q) : jSA Γ Q 7 (o_ic (4)) 1 := so_iconst E.2.2.1 rfl dX7_directions_7
theorem oo_X7_directions_8 {Γ : jΓ} {Q : jPost} (E : E_X7_directions Γ Q) : jSA Γ Q 8 (o_goto 13) 3 := so_goto E.2.2.1 (by decide) dX7_directions_8
theorem oo_X7_directions_11 {Γ : jΓ} {Q : jPost} (E : E_X7_directions Γ Q) : jSA Γ Q 11 (o_ic (6)) 2 := so_bipush E.2.2.1 rfl dX7_directions_11
theorem oo_X7_directions_13 {Γ : jΓ} {Q : jPost} (E : E_X7_directions Γ Q) : jSA Γ Q 13 (o_ireti) 1 := so_ireti E.2.2.1 E.2.2.2 dX7_directions_13
theorem ok_X7_directions_0 {Γ : jΓ} {Q : jPost} (E : E_X7_directions Γ Q) : jSS Γ Q 0 sg_X7_directions_0 := ⟨oo_X7_directions_0 E, oo_X7_directions_1 E, oo_X7_directions_4 E, oo_X7_directions_7 E, oo_X7_directions_8 E, trivial⟩
theorem ok_X7_directions_11 {Γ : jΓ} {Q : jPost} (E : E_X7_directions Γ Q) : jSS Γ Q 11 sg_X7_directions_11 := ⟨oo_X7_directions_11 E, oo_X7_directions_13 E, trivial⟩
theorem ok_X7_directions_13 {Γ : jΓ} {Q : jPost} (E : E_X7_directions Γ Q) : jSS Γ Q 13 sg_X7_directions_13 := ⟨oo_X7_directions_13 E, trivial⟩
theorem okc_X7_directions {Γ : jΓ} {Q : jPost} (E : E_X7_directions Γ Q) (t : Nat) : jSS Γ Q t (cd_X7_directions t) := by
  unfold cd_X7_directions
  split
  · exact ok_X7_directions_11 E
  · exact ok_X7_directions_13 E
  · trivial
theorem m_X7_directions_of (l : Launch) (hv : ∀ (G : jGt) (Q : jPost) (vs : List Value) (K : List jK) (h : jM), jHd cd_X7_directions G Q sg_X7_directions_0 0 → T_X7_directions vs K h Q → (lg_sl vs).length ≤ 1 ∧ G 0 (jinit vs 1) [] K h 0 0) : jHolds vwCl l yX7_directions wsX7_directions 0 0 0 0 T_X7_directions := by
  refine jMet (cc := cX7_directions) (maxL := 1) (rt := (some .int)) (by decide +kernel) rfl (fun Γ Q vs K h hl hn hcl C hR hT => hv (jG Γ) Q vs K h ?_ hT)
  · exact fun n L st K h ce sl => jwp_ok (okc_X7_directions ⟨hn, hcl, C, hR⟩) n sg_X7_directions_0 0 (ok_X7_directions_0 ⟨hn, hcl, C, hR⟩) L st K h ce sl
set_option maxHeartbeats 4000000 in
set_option maxRecDepth 100000 in
theorem v_X7_directions {G : jGt} {Q : jPost} {K : List jK} {h : jM}  (hT : jXM K ∧ Q (some (.int (jdM h))) K h) (H0 : jHd cd_X7_directions G Q sg_X7_directions_0 0) : G 0 [some (.ref 37)] [] K h 0 0 := by
  obtain ⟨hM, hT⟩ := hT
  refine H0 40 _ _ _ _ _ _ ?_
  simp only [sg_X7_directions_0, sg_X7_directions_11, sg_X7_directions_13, cd_X7_directions, jwp, o_ic, o_lc, o_iload, o_lload, o_aload, o_istore, o_lstore, o_astore, o_iinc, o_pop, o_dup, o_dup2, o_iadd, o_isub, o_imul, o_iand, o_ior, o_ishl, o_ladd, o_lmul, o_land, o_lor, o_idiv, o_irem, o_ineg, o_i2l, o_l2i, o_i2b, o_i2s, o_lushr, o_lshr, o_lshl, o_lcmp, o_ifeq, o_ifne, o_iflt, o_ifge, o_ifgt, o_ifle, o_iceq, o_icne, o_iclt, o_icge, o_icgt, o_icle, o_goto, o_tsw, jsw, o_lsw, jlk, o_getf, o_putf, o_putz, o_iald, o_zald, o_iast, o_zast, o_aald, o_alen, o_gets, o_zld, o_zlen, o_cpy, o_call, o_callV, o_ireti, o_iretz, o_lret, o_vret, jg, js, jkp, jkill, jsp, jcs, jfw, jov, Value.category, Option.toList_some, Option.toList_none, List.nil_append, List.cons_append, List.append_nil, Nat.reduceAdd, true_and, and_true, jb0, jb01, jb1, jem, true_or, or_true, Classical.not_not, forall_const, List.length_cons, List.length_nil, Nat.reduceLeDiff, Nat.zero_le, Nat.reduceLT, hM, km_37_0 hM, km_37_1 hM, km_37_2 hM, km_37_3 hM, km_37_4 hM, km_37_5 hM, km_37_6 hM, km_37_7 hM, km_37_8 hM, km_37_9 hM, km_37_10 hM, km_37_11 hM, km_37_12 hM, km_37_13 hM, km_37_14 hM, km_37_15 hM, km_37_16 hM, km_37_17 hM, km_37_18 hM, km_37_19 hM, km_37_20 hM, km_37_21 hM, km_37_22 hM, km_37_23 hM, km_37_24 hM, km_37_25 hM, km_37_26 hM, km_37_27 hM, km_37_28 hM, km_37_29 hM, km_37_30 hM, km_37_31 hM, km_37_32 hM, kmo_37 hM, kma_38 hM, kma_39 hM, kma_40 hM, kma_41 hM, kma_42 hM, kma_43 hM, kma_44 hM, kma_45 hM, kma_46 hM, kma_47 hM, kma_48 hM, kma_49 hM, kma_50 hM, kma_52 hM, kma_53 hM, kma_54 hM, kma_55 hM, kma_56 hM, kma_51 hM]
  unfold jdM at hT
  grind
theorem m_X7_directions (l : Launch) : jHolds vwCl l yX7_directions wsX7_directions 0 0 0 0 T_X7_directions := by
  refine m_X7_directions_of l (fun G Q vs K h H0 hT => ?_)
  unfold T_X7_directions at hT
  split at hT
  · obtain ⟨rfl, hT⟩ := hT
    exact ⟨Nat.le_of_ble_eq_true rfl, v_X7_directions hT H0⟩
  · exact hT.elim

/-! X7_turnOf -/
def T_X7_turnOf : jT := fun vs K h Q => match vs with
  | [.ref r0, .int c] => r0 = 37 ∧ (jXM K ∧ Q (some (.int (jtof c.toInt (jdM h)))) K h)
  | _ => False
def sg_X7_turnOf_0 : jS := [(o_aload 0, 1), (o_callV 1 7 T_X7_directions, 3), (o_istore 2, 1), (o_iload 1, 1), (o_tsw (76) 96 [64, 84, 60, 96, 96, 96, 62, 72, 96, 68], 54)]
def sg_X7_turnOf_60 : jS := [(o_ic (0), 1), (o_ireti, 1)]
def sg_X7_turnOf_62 : jS := [(o_ic (1), 1), (o_ireti, 1)]
def sg_X7_turnOf_64 : jS := [(o_iload 2, 1), (o_ic (1), 1), (o_isub, 1), (o_ireti, 1)]
def sg_X7_turnOf_68 : jS := [(o_iload 2, 1), (o_ic (2), 1), (o_idiv, 1), (o_ireti, 1)]
def sg_X7_turnOf_72 : jS := [(o_iload 2, 1), (o_ic (6), 2), (o_icne 82, 3), (o_ic (2), 1), (o_goto 83, 3)]
def sg_X7_turnOf_82 : jS := [(o_ic (-1), 1), (o_ireti, 1)]
def sg_X7_turnOf_83 : jS := [(o_ireti, 1)]
def sg_X7_turnOf_84 : jS := [(o_iload 2, 1), (o_ic (6), 2), (o_icne 94, 3), (o_ic (4), 1), (o_goto 95, 3)]
def sg_X7_turnOf_94 : jS := [(o_ic (-1), 1), (o_ireti, 1)]
def sg_X7_turnOf_95 : jS := [(o_ireti, 1)]
def sg_X7_turnOf_96 : jS := [(o_ic (-1), 1), (o_ireti, 1)]
def cd_X7_turnOf : Nat → jS := fun t => match t with
  | 60 => sg_X7_turnOf_60
  | 62 => sg_X7_turnOf_62
  | 64 => sg_X7_turnOf_64
  | 68 => sg_X7_turnOf_68
  | 72 => sg_X7_turnOf_72
  | 82 => sg_X7_turnOf_82
  | 83 => sg_X7_turnOf_83
  | 84 => sg_X7_turnOf_84
  | 94 => sg_X7_turnOf_94
  | 95 => sg_X7_turnOf_95
  | 96 => sg_X7_turnOf_96
  | _ => []
def E_X7_turnOf (Γ : jΓ) (Q : jPost) : Prop := Γ.2.2.2.2.2.2.2.2.2.2.1 = 3 ∧ Γ.2.2.2.2.2.2.2.2.2.2.2.1 = vwCl ∧ jC Γ cX7_turnOf RX7 "turnOf" (some .int) wsX7_turnOf 1 20 0 0 ∧ jR Γ Q 0 0
theorem oo_X7_turnOf_0 {Γ : jΓ} {Q : jPost} (E : E_X7_turnOf Γ Q) : jSA Γ Q 0 (o_aload 0) 1 := so_aload_n E.2.2.1 rfl dX7_turnOf_0
theorem oo_X7_turnOf_1 {Γ : jΓ} {Q : jPost} (E : E_X7_turnOf Γ Q) : jSA Γ Q 1 (o_callV 1 7 T_X7_directions) 3 := so_callV E.2.2.1 (ci := 7) (by rw [E.2.1]; rfl) gX7_turnOf_X7_directions (by decide +kernel) rfl (by rw [E.2.1]; exact m_X7_directions _) (by decide) (by decide) dX7_turnOf_1
theorem oo_X7_turnOf_4 {Γ : jΓ} {Q : jPost} (E : E_X7_turnOf Γ Q) : jSA Γ Q 4 (o_istore 2) 1 := so_istore_n E.2.2.1 rfl (by rw [E.1]; decide) dX7_turnOf_4
theorem oo_X7_turnOf_5 {Γ : jΓ} {Q : jPost} (E : E_X7_turnOf Γ Q) : jSA Γ Q 5 (o_iload 1) 1 := so_iload_n E.2.2.1 rfl dX7_turnOf_5
theorem oo_X7_turnOf_6 {Γ : jΓ} {Q : jPost} (E : E_X7_turnOf Γ Q) : jSA Γ Q 6 (o_tsw (76) 96 [64, 84, 60, 96, 96, 96, 62, 72, 96, 68]) 54 := so_tsw E.2.2.1 (by decide) (by decide) (by decide) dX7_turnOf_6
theorem oo_X7_turnOf_60 {Γ : jΓ} {Q : jPost} (E : E_X7_turnOf Γ Q) : jSA Γ Q 60 (o_ic (0)) 1 := so_iconst E.2.2.1 rfl dX7_turnOf_60
theorem oo_X7_turnOf_61 {Γ : jΓ} {Q : jPost} (E : E_X7_turnOf Γ Q) : jSA Γ Q 61 (o_ireti) 1 := so_ireti E.2.2.1 E.2.2.2 dX7_turnOf_61
theorem oo_X7_turnOf_62 {Γ : jΓ} {Q : jPost} (E : E_X7_turnOf Γ Q) : jSA Γ Q 62 (o_ic (1)) 1 := so_iconst E.2.2.1 rfl dX7_turnOf_62
theorem oo_X7_turnOf_63 {Γ : jΓ} {Q : jPost} (E : E_X7_turnOf Γ Q) : jSA Γ Q 63 (o_ireti) 1 := so_ireti E.2.2.1 E.2.2.2 dX7_turnOf_63
theorem oo_X7_turnOf_64 {Γ : jΓ} {Q : jPost} (E : E_X7_turnOf Γ Q) : jSA Γ Q 64 (o_iload 2) 1 := so_iload_n E.2.2.1 rfl dX7_turnOf_64
theorem oo_X7_turnOf_65 {Γ : jΓ} {Q : jPost} (E : E_X7_turnOf Γ Q) : jSA Γ Q 65 (o_ic (1)) 1 := so_iconst E.2.2.1 rfl dX7_turnOf_65
theorem oo_X7_turnOf_66 {Γ : jΓ} {Q : jPost} (E : E_X7_turnOf Γ Q) : jSA Γ Q 66 (o_isub) 1 := so_isub E.2.2.1 dX7_turnOf_66
theorem oo_X7_turnOf_67 {Γ : jΓ} {Q : jPost} (E : E_X7_turnOf Γ Q) : jSA Γ Q 67 (o_ireti) 1 := so_ireti E.2.2.1 E.2.2.2 dX7_turnOf_67
theorem oo_X7_turnOf_68 {Γ : jΓ} {Q : jPost} (E : E_X7_turnOf Γ Q) : jSA Γ Q 68 (o_iload 2) 1 := so_iload_n E.2.2.1 rfl dX7_turnOf_68
theorem oo_X7_turnOf_69 {Γ : jΓ} {Q : jPost} (E : E_X7_turnOf Γ Q) : jSA Γ Q 69 (o_ic (2)) 1 := so_iconst E.2.2.1 rfl dX7_turnOf_69
theorem oo_X7_turnOf_70 {Γ : jΓ} {Q : jPost} (E : E_X7_turnOf Γ Q) : jSA Γ Q 70 (o_idiv) 1 := so_idiv E.2.2.1 dX7_turnOf_70
theorem oo_X7_turnOf_71 {Γ : jΓ} {Q : jPost} (E : E_X7_turnOf Γ Q) : jSA Γ Q 71 (o_ireti) 1 := so_ireti E.2.2.1 E.2.2.2 dX7_turnOf_71
theorem oo_X7_turnOf_72 {Γ : jΓ} {Q : jPost} (E : E_X7_turnOf Γ Q) : jSA Γ Q 72 (o_iload 2) 1 := so_iload_n E.2.2.1 rfl dX7_turnOf_72
theorem oo_X7_turnOf_73 {Γ : jΓ} {Q : jPost} (E : E_X7_turnOf Γ Q) : jSA Γ Q 73 (o_ic (6)) 2 := so_bipush E.2.2.1 rfl dX7_turnOf_73
theorem oo_X7_turnOf_75 {Γ : jΓ} {Q : jPost} (E : E_X7_turnOf Γ Q) : jSA Γ Q 75 (o_icne 82) 3 := so_icne E.2.2.1 (by decide) dX7_turnOf_75
theorem oo_X7_turnOf_78 {Γ : jΓ} {Q : jPost} (E : E_X7_turnOf Γ Q) : jSA Γ Q 78 (o_ic (2)) 1 := so_iconst E.2.2.1 rfl dX7_turnOf_78
theorem oo_X7_turnOf_79 {Γ : jΓ} {Q : jPost} (E : E_X7_turnOf Γ Q) : jSA Γ Q 79 (o_goto 83) 3 := so_goto E.2.2.1 (by decide) dX7_turnOf_79
theorem oo_X7_turnOf_82 {Γ : jΓ} {Q : jPost} (E : E_X7_turnOf Γ Q) : jSA Γ Q 82 (o_ic (-1)) 1 := so_iconst E.2.2.1 rfl dX7_turnOf_82
theorem oo_X7_turnOf_83 {Γ : jΓ} {Q : jPost} (E : E_X7_turnOf Γ Q) : jSA Γ Q 83 (o_ireti) 1 := so_ireti E.2.2.1 E.2.2.2 dX7_turnOf_83
theorem oo_X7_turnOf_84 {Γ : jΓ} {Q : jPost} (E : E_X7_turnOf Γ Q) : jSA Γ Q 84 (o_iload 2) 1 := so_iload_n E.2.2.1 rfl dX7_turnOf_84
theorem oo_X7_turnOf_85 {Γ : jΓ} {Q : jPost} (E : E_X7_turnOf Γ Q) : jSA Γ Q 85 (o_ic (6)) 2 := so_bipush E.2.2.1 rfl dX7_turnOf_85
theorem oo_X7_turnOf_87 {Γ : jΓ} {Q : jPost} (E : E_X7_turnOf Γ Q) : jSA Γ Q 87 (o_icne 94) 3 := so_icne E.2.2.1 (by decide) dX7_turnOf_87
theorem oo_X7_turnOf_90 {Γ : jΓ} {Q : jPost} (E : E_X7_turnOf Γ Q) : jSA Γ Q 90 (o_ic (4)) 1 := so_iconst E.2.2.1 rfl dX7_turnOf_90
theorem oo_X7_turnOf_91 {Γ : jΓ} {Q : jPost} (E : E_X7_turnOf Γ Q) : jSA Γ Q 91 (o_goto 95) 3 := so_goto E.2.2.1 (by decide) dX7_turnOf_91
theorem oo_X7_turnOf_94 {Γ : jΓ} {Q : jPost} (E : E_X7_turnOf Γ Q) : jSA Γ Q 94 (o_ic (-1)) 1 := so_iconst E.2.2.1 rfl dX7_turnOf_94
theorem oo_X7_turnOf_95 {Γ : jΓ} {Q : jPost} (E : E_X7_turnOf Γ Q) : jSA Γ Q 95 (o_ireti) 1 := so_ireti E.2.2.1 E.2.2.2 dX7_turnOf_95
theorem oo_X7_turnOf_96 {Γ : jΓ} {Q : jPost} (E : E_X7_turnOf Γ Q) : jSA Γ Q 96 (o_ic (-1)) 1 := so_iconst E.2.2.1 rfl dX7_turnOf_96
theorem oo_X7_turnOf_97 {Γ : jΓ} {Q : jPost} (E : E_X7_turnOf Γ Q) : jSA Γ Q 97 (o_ireti) 1 := so_ireti E.2.2.1 E.2.2.2 dX7_turnOf_97
theorem ok_X7_turnOf_0 {Γ : jΓ} {Q : jPost} (E : E_X7_turnOf Γ Q) : jSS Γ Q 0 sg_X7_turnOf_0 := ⟨oo_X7_turnOf_0 E, oo_X7_turnOf_1 E, oo_X7_turnOf_4 E, oo_X7_turnOf_5 E, oo_X7_turnOf_6 E, trivial⟩
theorem ok_X7_turnOf_60 {Γ : jΓ} {Q : jPost} (E : E_X7_turnOf Γ Q) : jSS Γ Q 60 sg_X7_turnOf_60 := ⟨oo_X7_turnOf_60 E, oo_X7_turnOf_61 E, trivial⟩
theorem ok_X7_turnOf_62 {Γ : jΓ} {Q : jPost} (E : E_X7_turnOf Γ Q) : jSS Γ Q 62 sg_X7_turnOf_62 := ⟨oo_X7_turnOf_62 E, oo_X7_turnOf_63 E, trivial⟩
theorem ok_X7_turnOf_64 {Γ : jΓ} {Q : jPost} (E : E_X7_turnOf Γ Q) : jSS Γ Q 64 sg_X7_turnOf_64 := ⟨oo_X7_turnOf_64 E, oo_X7_turnOf_65 E, oo_X7_turnOf_66 E, oo_X7_turnOf_67 E, trivial⟩
theorem ok_X7_turnOf_68 {Γ : jΓ} {Q : jPost} (E : E_X7_turnOf Γ Q) : jSS Γ Q 68 sg_X7_turnOf_68 := ⟨oo_X7_turnOf_68 E, oo_X7_turnOf_69 E, oo_X7_turnOf_70 E, oo_X7_turnOf_71 E, trivial⟩
theorem ok_X7_turnOf_72 {Γ : jΓ} {Q : jPost} (E : E_X7_turnOf Γ Q) : jSS Γ Q 72 sg_X7_turnOf_72 := ⟨oo_X7_turnOf_72 E, oo_X7_turnOf_73 E, oo_X7_turnOf_75 E, oo_X7_turnOf_78 E, oo_X7_turnOf_79 E, trivial⟩
theorem ok_X7_turnOf_82 {Γ : jΓ} {Q : jPost} (E : E_X7_turnOf Γ Q) : jSS Γ Q 82 sg_X7_turnOf_82 := ⟨oo_X7_turnOf_82 E, oo_X7_turnOf_83 E, trivial⟩
theorem ok_X7_turnOf_83 {Γ : jΓ} {Q : jPost} (E : E_X7_turnOf Γ Q) : jSS Γ Q 83 sg_X7_turnOf_83 := ⟨oo_X7_turnOf_83 E, trivial⟩
theorem ok_X7_turnOf_84 {Γ : jΓ} {Q : jPost} (E : E_X7_turnOf Γ Q) : jSS Γ Q 84 sg_X7_turnOf_84 := ⟨oo_X7_turnOf_84 E, oo_X7_turnOf_85 E, oo_X7_turnOf_87 E, oo_X7_turnOf_90 E, oo_X7_turnOf_91 E, trivial⟩
theorem ok_X7_turnOf_94 {Γ : jΓ} {Q : jPost} (E : E_X7_turnOf Γ Q) : jSS Γ Q 94 sg_X7_turnOf_94 := ⟨oo_X7_turnOf_94 E, oo_X7_turnOf_95 E, trivial⟩
theorem ok_X7_turnOf_95 {Γ : jΓ} {Q : jPost} (E : E_X7_turnOf Γ Q) : jSS Γ Q 95 sg_X7_turnOf_95 := ⟨oo_X7_turnOf_95 E, trivial⟩
theorem ok_X7_turnOf_96 {Γ : jΓ} {Q : jPost} (E : E_X7_turnOf Γ Q) : jSS Γ Q 96 sg_X7_turnOf_96 := ⟨oo_X7_turnOf_96 E, oo_X7_turnOf_97 E, trivial⟩
theorem okc_X7_turnOf {Γ : jΓ} {Q : jPost} (E : E_X7_turnOf Γ Q) (t : Nat) : jSS Γ Q t (cd_X7_turnOf t) := by
  unfold cd_X7_turnOf
  split
  · exact ok_X7_turnOf_60 E
  · exact ok_X7_turnOf_62 E
  · exact ok_X7_turnOf_64 E
  · exact ok_X7_turnOf_68 E
  · exact ok_X7_turnOf_72 E
  · exact ok_X7_turnOf_82 E
  · exact ok_X7_turnOf_83 E
  · exact ok_X7_turnOf_84 E
  · exact ok_X7_turnOf_94 E
  · exact ok_X7_turnOf_95 E
  · exact ok_X7_turnOf_96 E
  · trivial
theorem m_X7_turnOf_of (l : Launch) (hv : ∀ (G : jGt) (Q : jPost) (vs : List Value) (K : List jK) (h : jM), jHd cd_X7_turnOf G Q sg_X7_turnOf_0 0 → T_X7_turnOf vs K h Q → (lg_sl vs).length ≤ 3 ∧ G 0 (jinit vs 3) [] K h 0 0) : jHolds vwCl l yX7_turnOf wsX7_turnOf 1 20 0 0 T_X7_turnOf := by
  refine jMet (cc := cX7_turnOf) (maxL := 3) (rt := (some .int)) (by decide +kernel) rfl (fun Γ Q vs K h hl hn hcl C hR hT => hv (jG Γ) Q vs K h ?_ hT)
  · exact fun n L st K h ce sl => jwp_ok (okc_X7_turnOf ⟨hn, hcl, C, hR⟩) n sg_X7_turnOf_0 0 (ok_X7_turnOf_0 ⟨hn, hcl, C, hR⟩) L st K h ce sl
set_option maxHeartbeats 4000000 in
set_option maxRecDepth 100000 in
theorem v_X7_turnOf {G : jGt} {Q : jPost} {K : List jK} {h : jM} {c : Int32} (hT : jXM K ∧ Q (some (.int (jtof c.toInt (jdM h)))) K h) (H0 : jHd cd_X7_turnOf G Q sg_X7_turnOf_0 0) : G 0 [some (.ref 37), some (.int c), none] [] K h 0 0 := by
  obtain ⟨hM, hT⟩ := hT
  refine H0 40 _ _ _ _ _ _ ?_
  simp only [sg_X7_turnOf_0, sg_X7_turnOf_60, sg_X7_turnOf_62, sg_X7_turnOf_64, sg_X7_turnOf_68, sg_X7_turnOf_72, sg_X7_turnOf_82, sg_X7_turnOf_83, sg_X7_turnOf_84, sg_X7_turnOf_94, sg_X7_turnOf_95, sg_X7_turnOf_96, cd_X7_turnOf, jwp, o_ic, o_lc, o_iload, o_lload, o_aload, o_istore, o_lstore, o_astore, o_iinc, o_pop, o_dup, o_dup2, o_iadd, o_isub, o_imul, o_iand, o_ior, o_ishl, o_ladd, o_lmul, o_land, o_lor, o_idiv, o_irem, o_ineg, o_i2l, o_l2i, o_i2b, o_i2s, o_lushr, o_lshr, o_lshl, o_lcmp, o_ifeq, o_ifne, o_iflt, o_ifge, o_ifgt, o_ifle, o_iceq, o_icne, o_iclt, o_icge, o_icgt, o_icle, o_goto, o_tsw, jsw, o_lsw, jlk, o_getf, o_putf, o_putz, o_iald, o_zald, o_iast, o_zast, o_aald, o_alen, o_gets, o_zld, o_zlen, o_cpy, o_call, o_callV, o_ireti, o_iretz, o_lret, o_vret, jg, js, jkp, jkill, jsp, jcs, jfw, jov, Value.category, Option.toList_some, Option.toList_none, List.nil_append, List.cons_append, List.append_nil, Nat.reduceAdd, true_and, and_true, jb0, jb01, jb1, jem, true_or, or_true, Classical.not_not, forall_const, List.length_cons, List.length_nil, Nat.reduceLeDiff, Nat.zero_le, Nat.reduceLT, and_self, not_true_eq_false, not_false_eq_true, false_imp_iff, true_imp_iff, implies_true, and_false, false_and, or_false, false_or, hM, km_37_0 hM, km_37_1 hM, km_37_2 hM, km_37_3 hM, km_37_4 hM, km_37_5 hM, km_37_6 hM, km_37_7 hM, km_37_8 hM, km_37_9 hM, km_37_10 hM, km_37_11 hM, km_37_12 hM, km_37_13 hM, km_37_14 hM, km_37_15 hM, km_37_16 hM, km_37_17 hM, km_37_18 hM, km_37_19 hM, km_37_20 hM, km_37_21 hM, km_37_22 hM, km_37_23 hM, km_37_24 hM, km_37_25 hM, km_37_26 hM, km_37_27 hM, km_37_28 hM, km_37_29 hM, km_37_30 hM, km_37_31 hM, km_37_32 hM, kmo_37 hM, kma_38 hM, kma_39 hM, kma_40 hM, kma_41 hM, kma_42 hM, kma_43 hM, kma_44 hM, kma_45 hM, kma_46 hM, kma_47 hM, kma_48 hM, kma_49 hM, kma_50 hM, kma_52 hM, kma_53 hM, kma_54 hM, kma_55 hM, kma_56 hM, kma_51 hM, T_X7_directions]
  unfold jtof at hT
  by_cases d6 : jdM h = 6
  · rw [d6] at hT ⊢
    simp only [if_true, and_self, not_true_eq_false, not_false_eq_true, false_imp_iff, true_imp_iff, implies_true, and_false, false_and, or_false, false_or] at hT ⊢
    have e4 : (6 : Int32) - 2 = 4 := rfl
    rw [e4] at hT
    grind (splits := 60)
  · simp only [if_neg d6, d6, and_self, not_true_eq_false, not_false_eq_true, false_imp_iff, true_imp_iff, implies_true, and_false, false_and, or_false, false_or] at hT ⊢
    grind (splits := 60)
theorem m_X7_turnOf (l : Launch) : jHolds vwCl l yX7_turnOf wsX7_turnOf 1 20 0 0 T_X7_turnOf := by
  refine m_X7_turnOf_of l (fun G Q vs K h H0 hT => ?_)
  unfold T_X7_turnOf at hT
  split at hT
  · obtain ⟨rfl, hT⟩ := hT
    exact ⟨Nat.le_of_ble_eq_true rfl, v_X7_turnOf hT H0⟩
  · exact hT.elim

/-! X7_dx -/
def mdx (kd d : Int32) : Int32 := if kd = 0 then (if d = 1 then 1 else if d = 3 then -1 else 0) else (if d = 0 ∨ d = 5 then 1 else if d = 2 ∨ d = 3 then -1 else 0)
def T_X7_dx : jT := fun vs K h Q => match vs with
  | [.ref r0, .int d] => r0 = 37 ∧ (jXM K ∧ Q (some (.int (mdx (h 37 0) d))) K h)
  | _ => False
def sg_X7_dx_0 : jS := [(o_aload 0, 1), (o_getf 7 0, 3), (o_ifne 27, 3), (o_iload 1, 1), (o_ic (1), 1), (o_icne 16, 3), (o_ic (1), 1), (o_goto 26, 3)]
def sg_X7_dx_16 : jS := [(o_iload 1, 1), (o_ic (3), 1), (o_icne 25, 3), (o_ic (-1), 1), (o_goto 26, 3)]
def sg_X7_dx_25 : jS := [(o_ic (0), 1), (o_ireti, 1)]
def sg_X7_dx_26 : jS := [(o_ireti, 1)]
def sg_X7_dx_27 : jS := [(o_iload 1, 1), (o_ifeq 36, 3), (o_iload 1, 1), (o_ic (5), 1), (o_icne 40, 3), (o_ic (1), 1), (o_goto 55, 3)]
def sg_X7_dx_36 : jS := [(o_ic (1), 1), (o_goto 55, 3)]
def sg_X7_dx_40 : jS := [(o_iload 1, 1), (o_ic (2), 1), (o_iceq 50, 3), (o_iload 1, 1), (o_ic (3), 1), (o_icne 54, 3), (o_ic (-1), 1), (o_goto 55, 3)]
def sg_X7_dx_50 : jS := [(o_ic (-1), 1), (o_goto 55, 3)]
def sg_X7_dx_54 : jS := [(o_ic (0), 1), (o_ireti, 1)]
def sg_X7_dx_55 : jS := [(o_ireti, 1)]
def cd_X7_dx : Nat → jS := fun t => match t with
  | 16 => sg_X7_dx_16
  | 25 => sg_X7_dx_25
  | 26 => sg_X7_dx_26
  | 27 => sg_X7_dx_27
  | 36 => sg_X7_dx_36
  | 40 => sg_X7_dx_40
  | 50 => sg_X7_dx_50
  | 54 => sg_X7_dx_54
  | 55 => sg_X7_dx_55
  | _ => []
theorem wl_X7_dx_77 : Cond.fieldLink RX7 77 (TX7 0).1 (TX7 0).2.1 (TX7 0).2.2.1 ∈ wsX7_dx := by decide +kernel
theorem wi_X7_dx_X7 : ∀ w ∈ u_ws RX7 TX7 33, w ∈ wsX7_dx := by decide +kernel
def E_X7_dx (Γ : jΓ) (Q : jPost) : Prop := Γ.2.2.2.2.2.2.2.2.2.2.1 = 2 ∧ Γ.2.2.2.2.2.2.2.2.2.2.2.1 = vwCl ∧ jC Γ cX7_dx RX7 "dx" (some .int) wsX7_dx 0 0 0 0 ∧ jR Γ Q 0 0
theorem oo_X7_dx_0 {Γ : jΓ} {Q : jPost} (E : E_X7_dx Γ Q) : jSA Γ Q 0 (o_aload 0) 1 := so_aload_n E.2.2.1 rfl dX7_dx_0
theorem oo_X7_dx_1 {Γ : jΓ} {Q : jPost} (E : E_X7_dx Γ Q) : jSA Γ Q 1 (o_getf 7 0) 3 := so_getf (ci := 7) E.2.2.1 wi_X7_dx_X7 (by rw [E.2.1]; rfl) 0 (by decide) wl_X7_dx_77 dX7_dx_1
theorem oo_X7_dx_4 {Γ : jΓ} {Q : jPost} (E : E_X7_dx Γ Q) : jSA Γ Q 4 (o_ifne 27) 3 := so_ifne E.2.2.1 (by decide) dX7_dx_4
theorem oo_X7_dx_7 {Γ : jΓ} {Q : jPost} (E : E_X7_dx Γ Q) : jSA Γ Q 7 (o_iload 1) 1 := so_iload_n E.2.2.1 rfl dX7_dx_7
theorem oo_X7_dx_8 {Γ : jΓ} {Q : jPost} (E : E_X7_dx Γ Q) : jSA Γ Q 8 (o_ic (1)) 1 := so_iconst E.2.2.1 rfl dX7_dx_8
theorem oo_X7_dx_9 {Γ : jΓ} {Q : jPost} (E : E_X7_dx Γ Q) : jSA Γ Q 9 (o_icne 16) 3 := so_icne E.2.2.1 (by decide) dX7_dx_9
theorem oo_X7_dx_12 {Γ : jΓ} {Q : jPost} (E : E_X7_dx Γ Q) : jSA Γ Q 12 (o_ic (1)) 1 := so_iconst E.2.2.1 rfl dX7_dx_12
theorem oo_X7_dx_13 {Γ : jΓ} {Q : jPost} (E : E_X7_dx Γ Q) : jSA Γ Q 13 (o_goto 26) 3 := so_goto E.2.2.1 (by decide) dX7_dx_13
theorem oo_X7_dx_16 {Γ : jΓ} {Q : jPost} (E : E_X7_dx Γ Q) : jSA Γ Q 16 (o_iload 1) 1 := so_iload_n E.2.2.1 rfl dX7_dx_16
theorem oo_X7_dx_17 {Γ : jΓ} {Q : jPost} (E : E_X7_dx Γ Q) : jSA Γ Q 17 (o_ic (3)) 1 := so_iconst E.2.2.1 rfl dX7_dx_17
theorem oo_X7_dx_18 {Γ : jΓ} {Q : jPost} (E : E_X7_dx Γ Q) : jSA Γ Q 18 (o_icne 25) 3 := so_icne E.2.2.1 (by decide) dX7_dx_18
theorem oo_X7_dx_21 {Γ : jΓ} {Q : jPost} (E : E_X7_dx Γ Q) : jSA Γ Q 21 (o_ic (-1)) 1 := so_iconst E.2.2.1 rfl dX7_dx_21
theorem oo_X7_dx_22 {Γ : jΓ} {Q : jPost} (E : E_X7_dx Γ Q) : jSA Γ Q 22 (o_goto 26) 3 := so_goto E.2.2.1 (by decide) dX7_dx_22
theorem oo_X7_dx_25 {Γ : jΓ} {Q : jPost} (E : E_X7_dx Γ Q) : jSA Γ Q 25 (o_ic (0)) 1 := so_iconst E.2.2.1 rfl dX7_dx_25
theorem oo_X7_dx_26 {Γ : jΓ} {Q : jPost} (E : E_X7_dx Γ Q) : jSA Γ Q 26 (o_ireti) 1 := so_ireti E.2.2.1 E.2.2.2 dX7_dx_26
theorem oo_X7_dx_27 {Γ : jΓ} {Q : jPost} (E : E_X7_dx Γ Q) : jSA Γ Q 27 (o_iload 1) 1 := so_iload_n E.2.2.1 rfl dX7_dx_27
theorem oo_X7_dx_28 {Γ : jΓ} {Q : jPost} (E : E_X7_dx Γ Q) : jSA Γ Q 28 (o_ifeq 36) 3 := so_ifeq E.2.2.1 (by decide) dX7_dx_28
theorem oo_X7_dx_31 {Γ : jΓ} {Q : jPost} (E : E_X7_dx Γ Q) : jSA Γ Q 31 (o_iload 1) 1 := so_iload_n E.2.2.1 rfl dX7_dx_31
theorem oo_X7_dx_32 {Γ : jΓ} {Q : jPost} (E : E_X7_dx Γ Q) : jSA Γ Q 32 (o_ic (5)) 1 := so_iconst E.2.2.1 rfl dX7_dx_32
theorem oo_X7_dx_33 {Γ : jΓ} {Q : jPost} (E : E_X7_dx Γ Q) : jSA Γ Q 33 (o_icne 40) 3 := so_icne E.2.2.1 (by decide) dX7_dx_33
theorem oo_X7_dx_36 {Γ : jΓ} {Q : jPost} (E : E_X7_dx Γ Q) : jSA Γ Q 36 (o_ic (1)) 1 := so_iconst E.2.2.1 rfl dX7_dx_36
theorem oo_X7_dx_37 {Γ : jΓ} {Q : jPost} (E : E_X7_dx Γ Q) : jSA Γ Q 37 (o_goto 55) 3 := so_goto E.2.2.1 (by decide) dX7_dx_37
theorem oo_X7_dx_40 {Γ : jΓ} {Q : jPost} (E : E_X7_dx Γ Q) : jSA Γ Q 40 (o_iload 1) 1 := so_iload_n E.2.2.1 rfl dX7_dx_40
theorem oo_X7_dx_41 {Γ : jΓ} {Q : jPost} (E : E_X7_dx Γ Q) : jSA Γ Q 41 (o_ic (2)) 1 := so_iconst E.2.2.1 rfl dX7_dx_41
theorem oo_X7_dx_42 {Γ : jΓ} {Q : jPost} (E : E_X7_dx Γ Q) : jSA Γ Q 42 (o_iceq 50) 3 := so_iceq E.2.2.1 (by decide) dX7_dx_42
theorem oo_X7_dx_45 {Γ : jΓ} {Q : jPost} (E : E_X7_dx Γ Q) : jSA Γ Q 45 (o_iload 1) 1 := so_iload_n E.2.2.1 rfl dX7_dx_45
theorem oo_X7_dx_46 {Γ : jΓ} {Q : jPost} (E : E_X7_dx Γ Q) : jSA Γ Q 46 (o_ic (3)) 1 := so_iconst E.2.2.1 rfl dX7_dx_46
theorem oo_X7_dx_47 {Γ : jΓ} {Q : jPost} (E : E_X7_dx Γ Q) : jSA Γ Q 47 (o_icne 54) 3 := so_icne E.2.2.1 (by decide) dX7_dx_47
theorem oo_X7_dx_50 {Γ : jΓ} {Q : jPost} (E : E_X7_dx Γ Q) : jSA Γ Q 50 (o_ic (-1)) 1 := so_iconst E.2.2.1 rfl dX7_dx_50
theorem oo_X7_dx_51 {Γ : jΓ} {Q : jPost} (E : E_X7_dx Γ Q) : jSA Γ Q 51 (o_goto 55) 3 := so_goto E.2.2.1 (by decide) dX7_dx_51
theorem oo_X7_dx_54 {Γ : jΓ} {Q : jPost} (E : E_X7_dx Γ Q) : jSA Γ Q 54 (o_ic (0)) 1 := so_iconst E.2.2.1 rfl dX7_dx_54
theorem oo_X7_dx_55 {Γ : jΓ} {Q : jPost} (E : E_X7_dx Γ Q) : jSA Γ Q 55 (o_ireti) 1 := so_ireti E.2.2.1 E.2.2.2 dX7_dx_55
theorem ok_X7_dx_0 {Γ : jΓ} {Q : jPost} (E : E_X7_dx Γ Q) : jSS Γ Q 0 sg_X7_dx_0 := ⟨oo_X7_dx_0 E, oo_X7_dx_1 E, oo_X7_dx_4 E, oo_X7_dx_7 E, oo_X7_dx_8 E, oo_X7_dx_9 E, oo_X7_dx_12 E, oo_X7_dx_13 E, trivial⟩
theorem ok_X7_dx_16 {Γ : jΓ} {Q : jPost} (E : E_X7_dx Γ Q) : jSS Γ Q 16 sg_X7_dx_16 := ⟨oo_X7_dx_16 E, oo_X7_dx_17 E, oo_X7_dx_18 E, oo_X7_dx_21 E, oo_X7_dx_22 E, trivial⟩
theorem ok_X7_dx_25 {Γ : jΓ} {Q : jPost} (E : E_X7_dx Γ Q) : jSS Γ Q 25 sg_X7_dx_25 := ⟨oo_X7_dx_25 E, oo_X7_dx_26 E, trivial⟩
theorem ok_X7_dx_26 {Γ : jΓ} {Q : jPost} (E : E_X7_dx Γ Q) : jSS Γ Q 26 sg_X7_dx_26 := ⟨oo_X7_dx_26 E, trivial⟩
theorem ok_X7_dx_27 {Γ : jΓ} {Q : jPost} (E : E_X7_dx Γ Q) : jSS Γ Q 27 sg_X7_dx_27 := ⟨oo_X7_dx_27 E, oo_X7_dx_28 E, oo_X7_dx_31 E, oo_X7_dx_32 E, oo_X7_dx_33 E, oo_X7_dx_36 E, oo_X7_dx_37 E, trivial⟩
theorem ok_X7_dx_36 {Γ : jΓ} {Q : jPost} (E : E_X7_dx Γ Q) : jSS Γ Q 36 sg_X7_dx_36 := ⟨oo_X7_dx_36 E, oo_X7_dx_37 E, trivial⟩
theorem ok_X7_dx_40 {Γ : jΓ} {Q : jPost} (E : E_X7_dx Γ Q) : jSS Γ Q 40 sg_X7_dx_40 := ⟨oo_X7_dx_40 E, oo_X7_dx_41 E, oo_X7_dx_42 E, oo_X7_dx_45 E, oo_X7_dx_46 E, oo_X7_dx_47 E, oo_X7_dx_50 E, oo_X7_dx_51 E, trivial⟩
theorem ok_X7_dx_50 {Γ : jΓ} {Q : jPost} (E : E_X7_dx Γ Q) : jSS Γ Q 50 sg_X7_dx_50 := ⟨oo_X7_dx_50 E, oo_X7_dx_51 E, trivial⟩
theorem ok_X7_dx_54 {Γ : jΓ} {Q : jPost} (E : E_X7_dx Γ Q) : jSS Γ Q 54 sg_X7_dx_54 := ⟨oo_X7_dx_54 E, oo_X7_dx_55 E, trivial⟩
theorem ok_X7_dx_55 {Γ : jΓ} {Q : jPost} (E : E_X7_dx Γ Q) : jSS Γ Q 55 sg_X7_dx_55 := ⟨oo_X7_dx_55 E, trivial⟩
theorem okc_X7_dx {Γ : jΓ} {Q : jPost} (E : E_X7_dx Γ Q) (t : Nat) : jSS Γ Q t (cd_X7_dx t) := by
  unfold cd_X7_dx
  split
  · exact ok_X7_dx_16 E
  · exact ok_X7_dx_25 E
  · exact ok_X7_dx_26 E
  · exact ok_X7_dx_27 E
  · exact ok_X7_dx_36 E
  · exact ok_X7_dx_40 E
  · exact ok_X7_dx_50 E
  · exact ok_X7_dx_54 E
  · exact ok_X7_dx_55 E
  · trivial
theorem m_X7_dx_of (l : Launch) (hv : ∀ (G : jGt) (Q : jPost) (vs : List Value) (K : List jK) (h : jM), jHd cd_X7_dx G Q sg_X7_dx_0 0 → T_X7_dx vs K h Q → (lg_sl vs).length ≤ 2 ∧ G 0 (jinit vs 2) [] K h 0 0) : jHolds vwCl l yX7_dx wsX7_dx 0 0 0 0 T_X7_dx := by
  refine jMet (cc := cX7_dx) (maxL := 2) (rt := (some .int)) (by decide +kernel) rfl (fun Γ Q vs K h hl hn hcl C hR hT => hv (jG Γ) Q vs K h ?_ hT)
  · exact fun n L st K h ce sl => jwp_ok (okc_X7_dx ⟨hn, hcl, C, hR⟩) n sg_X7_dx_0 0 (ok_X7_dx_0 ⟨hn, hcl, C, hR⟩) L st K h ce sl
set_option maxHeartbeats 4000000 in
set_option maxRecDepth 100000 in
theorem v_X7_dx {G : jGt} {Q : jPost} {K : List jK} {h : jM} {d : Int32} (hT : jXM K ∧ Q (some (.int (mdx (h 37 0) d))) K h) (H0 : jHd cd_X7_dx G Q sg_X7_dx_0 0) : G 0 [some (.ref 37), some (.int d)] [] K h 0 0 := by
  obtain ⟨hM, hT⟩ := hT
  refine H0 60 _ _ _ _ _ _ ?_
  simp only [sg_X7_dx_0, sg_X7_dx_16, sg_X7_dx_25, sg_X7_dx_26, sg_X7_dx_27, sg_X7_dx_36, sg_X7_dx_40, sg_X7_dx_50, sg_X7_dx_54, sg_X7_dx_55, cd_X7_dx, jwp, o_ic, o_lc, o_iload, o_lload, o_aload, o_istore, o_lstore, o_astore, o_iinc, o_pop, o_dup, o_dup2, o_iadd, o_isub, o_imul, o_iand, o_ior, o_ishl, o_ladd, o_lmul, o_land, o_lor, o_idiv, o_irem, o_ineg, o_i2l, o_l2i, o_i2b, o_i2s, o_lushr, o_lshr, o_lshl, o_lcmp, o_ifeq, o_ifne, o_iflt, o_ifge, o_ifgt, o_ifle, o_iceq, o_icne, o_iclt, o_icge, o_icgt, o_icle, o_goto, o_tsw, jsw, o_lsw, jlk, o_getf, o_putf, o_putz, o_iald, o_zald, o_iast, o_zast, o_aald, o_alen, o_gets, o_zld, o_zlen, o_cpy, o_call, o_callV, o_ireti, o_iretz, o_lret, o_vret, jg, js, jkp, jkill, jsp, jcs, jfw, jov, Value.category, Option.toList_some, Option.toList_none, List.nil_append, List.cons_append, List.append_nil, Nat.reduceAdd, true_and, and_true, jb0, jb01, jb1, jem, true_or, or_true, Classical.not_not, forall_const, List.length_cons, List.length_nil, Nat.reduceLeDiff, Nat.zero_le, Nat.reduceLT, and_self, not_true_eq_false, not_false_eq_true, false_imp_iff, true_imp_iff, implies_true, and_false, false_and, or_false, false_or, hM, km_37_0 hM, km_37_1 hM, km_37_2 hM, km_37_3 hM, km_37_4 hM, km_37_5 hM, km_37_6 hM, km_37_7 hM, km_37_8 hM, km_37_9 hM, km_37_10 hM, km_37_11 hM, km_37_12 hM, km_37_13 hM, km_37_14 hM, km_37_15 hM, km_37_16 hM, km_37_17 hM, km_37_18 hM, km_37_19 hM, km_37_20 hM, km_37_21 hM, km_37_22 hM, km_37_23 hM, km_37_24 hM, km_37_25 hM, km_37_26 hM, km_37_27 hM, km_37_28 hM, km_37_29 hM, km_37_30 hM, km_37_31 hM, km_37_32 hM, kmo_37 hM, kma_38 hM, kma_39 hM, kma_40 hM, kma_41 hM, kma_42 hM, kma_43 hM, kma_44 hM, kma_45 hM, kma_46 hM, kma_47 hM, kma_48 hM, kma_49 hM, kma_50 hM, kma_52 hM, kma_53 hM, kma_54 hM, kma_55 hM, kma_56 hM, kma_51 hM]
  unfold mdx at hT
  grind (splits := 30)
theorem m_X7_dx (l : Launch) : jHolds vwCl l yX7_dx wsX7_dx 0 0 0 0 T_X7_dx := by
  refine m_X7_dx_of l (fun G Q vs K h H0 hT => ?_)
  unfold T_X7_dx at hT
  split at hT
  · obtain ⟨rfl, hT⟩ := hT
    exact ⟨Nat.le_of_ble_eq_true rfl, v_X7_dx hT H0⟩
  · exact hT.elim

/-! X7_dy -/
def mdy (kd d : Int32) : Int32 := if kd = 0 then (if d = 0 then 1 else if d = 2 then -1 else 0) else (if d = 1 ∨ d = 2 then 1 else if d = 4 ∨ d = 5 then -1 else 0)
def T_X7_dy : jT := fun vs K h Q => match vs with
  | [.ref r0, .int d] => r0 = 37 ∧ (jXM K ∧ Q (some (.int (mdy (h 37 0) d))) K h)
  | _ => False
def sg_X7_dy_0 : jS := [(o_aload 0, 1), (o_getf 7 0, 3), (o_ifne 26, 3), (o_iload 1, 1), (o_ifne 15, 3), (o_ic (1), 1), (o_goto 25, 3)]
def sg_X7_dy_15 : jS := [(o_iload 1, 1), (o_ic (2), 1), (o_icne 24, 3), (o_ic (-1), 1), (o_goto 25, 3)]
def sg_X7_dy_24 : jS := [(o_ic (0), 1), (o_ireti, 1)]
def sg_X7_dy_25 : jS := [(o_ireti, 1)]
def sg_X7_dy_26 : jS := [(o_iload 1, 1), (o_ic (1), 1), (o_iceq 36, 3), (o_iload 1, 1), (o_ic (2), 1), (o_icne 40, 3), (o_ic (1), 1), (o_goto 55, 3)]
def sg_X7_dy_36 : jS := [(o_ic (1), 1), (o_goto 55, 3)]
def sg_X7_dy_40 : jS := [(o_iload 1, 1), (o_ic (4), 1), (o_iceq 50, 3), (o_iload 1, 1), (o_ic (5), 1), (o_icne 54, 3), (o_ic (-1), 1), (o_goto 55, 3)]
def sg_X7_dy_50 : jS := [(o_ic (-1), 1), (o_goto 55, 3)]
def sg_X7_dy_54 : jS := [(o_ic (0), 1), (o_ireti, 1)]
def sg_X7_dy_55 : jS := [(o_ireti, 1)]
def cd_X7_dy : Nat → jS := fun t => match t with
  | 15 => sg_X7_dy_15
  | 24 => sg_X7_dy_24
  | 25 => sg_X7_dy_25
  | 26 => sg_X7_dy_26
  | 36 => sg_X7_dy_36
  | 40 => sg_X7_dy_40
  | 50 => sg_X7_dy_50
  | 54 => sg_X7_dy_54
  | 55 => sg_X7_dy_55
  | _ => []
theorem wl_X7_dy_77 : Cond.fieldLink RX7 77 (TX7 0).1 (TX7 0).2.1 (TX7 0).2.2.1 ∈ wsX7_dy := by decide +kernel
theorem wi_X7_dy_X7 : ∀ w ∈ u_ws RX7 TX7 33, w ∈ wsX7_dy := by decide +kernel
def E_X7_dy (Γ : jΓ) (Q : jPost) : Prop := Γ.2.2.2.2.2.2.2.2.2.2.1 = 2 ∧ Γ.2.2.2.2.2.2.2.2.2.2.2.1 = vwCl ∧ jC Γ cX7_dy RX7 "dy" (some .int) wsX7_dy 0 0 0 0 ∧ jR Γ Q 0 0
theorem oo_X7_dy_0 {Γ : jΓ} {Q : jPost} (E : E_X7_dy Γ Q) : jSA Γ Q 0 (o_aload 0) 1 := so_aload_n E.2.2.1 rfl dX7_dy_0
theorem oo_X7_dy_1 {Γ : jΓ} {Q : jPost} (E : E_X7_dy Γ Q) : jSA Γ Q 1 (o_getf 7 0) 3 := so_getf (ci := 7) E.2.2.1 wi_X7_dy_X7 (by rw [E.2.1]; rfl) 0 (by decide) wl_X7_dy_77 dX7_dy_1
theorem oo_X7_dy_4 {Γ : jΓ} {Q : jPost} (E : E_X7_dy Γ Q) : jSA Γ Q 4 (o_ifne 26) 3 := so_ifne E.2.2.1 (by decide) dX7_dy_4
theorem oo_X7_dy_7 {Γ : jΓ} {Q : jPost} (E : E_X7_dy Γ Q) : jSA Γ Q 7 (o_iload 1) 1 := so_iload_n E.2.2.1 rfl dX7_dy_7
theorem oo_X7_dy_8 {Γ : jΓ} {Q : jPost} (E : E_X7_dy Γ Q) : jSA Γ Q 8 (o_ifne 15) 3 := so_ifne E.2.2.1 (by decide) dX7_dy_8
theorem oo_X7_dy_11 {Γ : jΓ} {Q : jPost} (E : E_X7_dy Γ Q) : jSA Γ Q 11 (o_ic (1)) 1 := so_iconst E.2.2.1 rfl dX7_dy_11
theorem oo_X7_dy_12 {Γ : jΓ} {Q : jPost} (E : E_X7_dy Γ Q) : jSA Γ Q 12 (o_goto 25) 3 := so_goto E.2.2.1 (by decide) dX7_dy_12
theorem oo_X7_dy_15 {Γ : jΓ} {Q : jPost} (E : E_X7_dy Γ Q) : jSA Γ Q 15 (o_iload 1) 1 := so_iload_n E.2.2.1 rfl dX7_dy_15
theorem oo_X7_dy_16 {Γ : jΓ} {Q : jPost} (E : E_X7_dy Γ Q) : jSA Γ Q 16 (o_ic (2)) 1 := so_iconst E.2.2.1 rfl dX7_dy_16
theorem oo_X7_dy_17 {Γ : jΓ} {Q : jPost} (E : E_X7_dy Γ Q) : jSA Γ Q 17 (o_icne 24) 3 := so_icne E.2.2.1 (by decide) dX7_dy_17
theorem oo_X7_dy_20 {Γ : jΓ} {Q : jPost} (E : E_X7_dy Γ Q) : jSA Γ Q 20 (o_ic (-1)) 1 := so_iconst E.2.2.1 rfl dX7_dy_20
theorem oo_X7_dy_21 {Γ : jΓ} {Q : jPost} (E : E_X7_dy Γ Q) : jSA Γ Q 21 (o_goto 25) 3 := so_goto E.2.2.1 (by decide) dX7_dy_21
theorem oo_X7_dy_24 {Γ : jΓ} {Q : jPost} (E : E_X7_dy Γ Q) : jSA Γ Q 24 (o_ic (0)) 1 := so_iconst E.2.2.1 rfl dX7_dy_24
theorem oo_X7_dy_25 {Γ : jΓ} {Q : jPost} (E : E_X7_dy Γ Q) : jSA Γ Q 25 (o_ireti) 1 := so_ireti E.2.2.1 E.2.2.2 dX7_dy_25
theorem oo_X7_dy_26 {Γ : jΓ} {Q : jPost} (E : E_X7_dy Γ Q) : jSA Γ Q 26 (o_iload 1) 1 := so_iload_n E.2.2.1 rfl dX7_dy_26
theorem oo_X7_dy_27 {Γ : jΓ} {Q : jPost} (E : E_X7_dy Γ Q) : jSA Γ Q 27 (o_ic (1)) 1 := so_iconst E.2.2.1 rfl dX7_dy_27
theorem oo_X7_dy_28 {Γ : jΓ} {Q : jPost} (E : E_X7_dy Γ Q) : jSA Γ Q 28 (o_iceq 36) 3 := so_iceq E.2.2.1 (by decide) dX7_dy_28
theorem oo_X7_dy_31 {Γ : jΓ} {Q : jPost} (E : E_X7_dy Γ Q) : jSA Γ Q 31 (o_iload 1) 1 := so_iload_n E.2.2.1 rfl dX7_dy_31
theorem oo_X7_dy_32 {Γ : jΓ} {Q : jPost} (E : E_X7_dy Γ Q) : jSA Γ Q 32 (o_ic (2)) 1 := so_iconst E.2.2.1 rfl dX7_dy_32
theorem oo_X7_dy_33 {Γ : jΓ} {Q : jPost} (E : E_X7_dy Γ Q) : jSA Γ Q 33 (o_icne 40) 3 := so_icne E.2.2.1 (by decide) dX7_dy_33
theorem oo_X7_dy_36 {Γ : jΓ} {Q : jPost} (E : E_X7_dy Γ Q) : jSA Γ Q 36 (o_ic (1)) 1 := so_iconst E.2.2.1 rfl dX7_dy_36
theorem oo_X7_dy_37 {Γ : jΓ} {Q : jPost} (E : E_X7_dy Γ Q) : jSA Γ Q 37 (o_goto 55) 3 := so_goto E.2.2.1 (by decide) dX7_dy_37
theorem oo_X7_dy_40 {Γ : jΓ} {Q : jPost} (E : E_X7_dy Γ Q) : jSA Γ Q 40 (o_iload 1) 1 := so_iload_n E.2.2.1 rfl dX7_dy_40
theorem oo_X7_dy_41 {Γ : jΓ} {Q : jPost} (E : E_X7_dy Γ Q) : jSA Γ Q 41 (o_ic (4)) 1 := so_iconst E.2.2.1 rfl dX7_dy_41
theorem oo_X7_dy_42 {Γ : jΓ} {Q : jPost} (E : E_X7_dy Γ Q) : jSA Γ Q 42 (o_iceq 50) 3 := so_iceq E.2.2.1 (by decide) dX7_dy_42
theorem oo_X7_dy_45 {Γ : jΓ} {Q : jPost} (E : E_X7_dy Γ Q) : jSA Γ Q 45 (o_iload 1) 1 := so_iload_n E.2.2.1 rfl dX7_dy_45
theorem oo_X7_dy_46 {Γ : jΓ} {Q : jPost} (E : E_X7_dy Γ Q) : jSA Γ Q 46 (o_ic (5)) 1 := so_iconst E.2.2.1 rfl dX7_dy_46
theorem oo_X7_dy_47 {Γ : jΓ} {Q : jPost} (E : E_X7_dy Γ Q) : jSA Γ Q 47 (o_icne 54) 3 := so_icne E.2.2.1 (by decide) dX7_dy_47
theorem oo_X7_dy_50 {Γ : jΓ} {Q : jPost} (E : E_X7_dy Γ Q) : jSA Γ Q 50 (o_ic (-1)) 1 := so_iconst E.2.2.1 rfl dX7_dy_50
theorem oo_X7_dy_51 {Γ : jΓ} {Q : jPost} (E : E_X7_dy Γ Q) : jSA Γ Q 51 (o_goto 55) 3 := so_goto E.2.2.1 (by decide) dX7_dy_51
theorem oo_X7_dy_54 {Γ : jΓ} {Q : jPost} (E : E_X7_dy Γ Q) : jSA Γ Q 54 (o_ic (0)) 1 := so_iconst E.2.2.1 rfl dX7_dy_54
theorem oo_X7_dy_55 {Γ : jΓ} {Q : jPost} (E : E_X7_dy Γ Q) : jSA Γ Q 55 (o_ireti) 1 := so_ireti E.2.2.1 E.2.2.2 dX7_dy_55
theorem ok_X7_dy_0 {Γ : jΓ} {Q : jPost} (E : E_X7_dy Γ Q) : jSS Γ Q 0 sg_X7_dy_0 := ⟨oo_X7_dy_0 E, oo_X7_dy_1 E, oo_X7_dy_4 E, oo_X7_dy_7 E, oo_X7_dy_8 E, oo_X7_dy_11 E, oo_X7_dy_12 E, trivial⟩
theorem ok_X7_dy_15 {Γ : jΓ} {Q : jPost} (E : E_X7_dy Γ Q) : jSS Γ Q 15 sg_X7_dy_15 := ⟨oo_X7_dy_15 E, oo_X7_dy_16 E, oo_X7_dy_17 E, oo_X7_dy_20 E, oo_X7_dy_21 E, trivial⟩
theorem ok_X7_dy_24 {Γ : jΓ} {Q : jPost} (E : E_X7_dy Γ Q) : jSS Γ Q 24 sg_X7_dy_24 := ⟨oo_X7_dy_24 E, oo_X7_dy_25 E, trivial⟩
theorem ok_X7_dy_25 {Γ : jΓ} {Q : jPost} (E : E_X7_dy Γ Q) : jSS Γ Q 25 sg_X7_dy_25 := ⟨oo_X7_dy_25 E, trivial⟩
theorem ok_X7_dy_26 {Γ : jΓ} {Q : jPost} (E : E_X7_dy Γ Q) : jSS Γ Q 26 sg_X7_dy_26 := ⟨oo_X7_dy_26 E, oo_X7_dy_27 E, oo_X7_dy_28 E, oo_X7_dy_31 E, oo_X7_dy_32 E, oo_X7_dy_33 E, oo_X7_dy_36 E, oo_X7_dy_37 E, trivial⟩
theorem ok_X7_dy_36 {Γ : jΓ} {Q : jPost} (E : E_X7_dy Γ Q) : jSS Γ Q 36 sg_X7_dy_36 := ⟨oo_X7_dy_36 E, oo_X7_dy_37 E, trivial⟩
theorem ok_X7_dy_40 {Γ : jΓ} {Q : jPost} (E : E_X7_dy Γ Q) : jSS Γ Q 40 sg_X7_dy_40 := ⟨oo_X7_dy_40 E, oo_X7_dy_41 E, oo_X7_dy_42 E, oo_X7_dy_45 E, oo_X7_dy_46 E, oo_X7_dy_47 E, oo_X7_dy_50 E, oo_X7_dy_51 E, trivial⟩
theorem ok_X7_dy_50 {Γ : jΓ} {Q : jPost} (E : E_X7_dy Γ Q) : jSS Γ Q 50 sg_X7_dy_50 := ⟨oo_X7_dy_50 E, oo_X7_dy_51 E, trivial⟩
theorem ok_X7_dy_54 {Γ : jΓ} {Q : jPost} (E : E_X7_dy Γ Q) : jSS Γ Q 54 sg_X7_dy_54 := ⟨oo_X7_dy_54 E, oo_X7_dy_55 E, trivial⟩
theorem ok_X7_dy_55 {Γ : jΓ} {Q : jPost} (E : E_X7_dy Γ Q) : jSS Γ Q 55 sg_X7_dy_55 := ⟨oo_X7_dy_55 E, trivial⟩
theorem okc_X7_dy {Γ : jΓ} {Q : jPost} (E : E_X7_dy Γ Q) (t : Nat) : jSS Γ Q t (cd_X7_dy t) := by
  unfold cd_X7_dy
  split
  · exact ok_X7_dy_15 E
  · exact ok_X7_dy_24 E
  · exact ok_X7_dy_25 E
  · exact ok_X7_dy_26 E
  · exact ok_X7_dy_36 E
  · exact ok_X7_dy_40 E
  · exact ok_X7_dy_50 E
  · exact ok_X7_dy_54 E
  · exact ok_X7_dy_55 E
  · trivial
theorem m_X7_dy_of (l : Launch) (hv : ∀ (G : jGt) (Q : jPost) (vs : List Value) (K : List jK) (h : jM), jHd cd_X7_dy G Q sg_X7_dy_0 0 → T_X7_dy vs K h Q → (lg_sl vs).length ≤ 2 ∧ G 0 (jinit vs 2) [] K h 0 0) : jHolds vwCl l yX7_dy wsX7_dy 0 0 0 0 T_X7_dy := by
  refine jMet (cc := cX7_dy) (maxL := 2) (rt := (some .int)) (by decide +kernel) rfl (fun Γ Q vs K h hl hn hcl C hR hT => hv (jG Γ) Q vs K h ?_ hT)
  · exact fun n L st K h ce sl => jwp_ok (okc_X7_dy ⟨hn, hcl, C, hR⟩) n sg_X7_dy_0 0 (ok_X7_dy_0 ⟨hn, hcl, C, hR⟩) L st K h ce sl
set_option maxHeartbeats 4000000 in
set_option maxRecDepth 100000 in
theorem v_X7_dy {G : jGt} {Q : jPost} {K : List jK} {h : jM} {d : Int32} (hT : jXM K ∧ Q (some (.int (mdy (h 37 0) d))) K h) (H0 : jHd cd_X7_dy G Q sg_X7_dy_0 0) : G 0 [some (.ref 37), some (.int d)] [] K h 0 0 := by
  obtain ⟨hM, hT⟩ := hT
  refine H0 60 _ _ _ _ _ _ ?_
  simp only [sg_X7_dy_0, sg_X7_dy_15, sg_X7_dy_24, sg_X7_dy_25, sg_X7_dy_26, sg_X7_dy_36, sg_X7_dy_40, sg_X7_dy_50, sg_X7_dy_54, sg_X7_dy_55, cd_X7_dy, jwp, o_ic, o_lc, o_iload, o_lload, o_aload, o_istore, o_lstore, o_astore, o_iinc, o_pop, o_dup, o_dup2, o_iadd, o_isub, o_imul, o_iand, o_ior, o_ishl, o_ladd, o_lmul, o_land, o_lor, o_idiv, o_irem, o_ineg, o_i2l, o_l2i, o_i2b, o_i2s, o_lushr, o_lshr, o_lshl, o_lcmp, o_ifeq, o_ifne, o_iflt, o_ifge, o_ifgt, o_ifle, o_iceq, o_icne, o_iclt, o_icge, o_icgt, o_icle, o_goto, o_tsw, jsw, o_lsw, jlk, o_getf, o_putf, o_putz, o_iald, o_zald, o_iast, o_zast, o_aald, o_alen, o_gets, o_zld, o_zlen, o_cpy, o_call, o_callV, o_ireti, o_iretz, o_lret, o_vret, jg, js, jkp, jkill, jsp, jcs, jfw, jov, Value.category, Option.toList_some, Option.toList_none, List.nil_append, List.cons_append, List.append_nil, Nat.reduceAdd, true_and, and_true, jb0, jb01, jb1, jem, true_or, or_true, Classical.not_not, forall_const, List.length_cons, List.length_nil, Nat.reduceLeDiff, Nat.zero_le, Nat.reduceLT, and_self, not_true_eq_false, not_false_eq_true, false_imp_iff, true_imp_iff, implies_true, and_false, false_and, or_false, false_or, hM, km_37_0 hM, km_37_1 hM, km_37_2 hM, km_37_3 hM, km_37_4 hM, km_37_5 hM, km_37_6 hM, km_37_7 hM, km_37_8 hM, km_37_9 hM, km_37_10 hM, km_37_11 hM, km_37_12 hM, km_37_13 hM, km_37_14 hM, km_37_15 hM, km_37_16 hM, km_37_17 hM, km_37_18 hM, km_37_19 hM, km_37_20 hM, km_37_21 hM, km_37_22 hM, km_37_23 hM, km_37_24 hM, km_37_25 hM, km_37_26 hM, km_37_27 hM, km_37_28 hM, km_37_29 hM, km_37_30 hM, km_37_31 hM, km_37_32 hM, kmo_37 hM, kma_38 hM, kma_39 hM, kma_40 hM, kma_41 hM, kma_42 hM, kma_43 hM, kma_44 hM, kma_45 hM, kma_46 hM, kma_47 hM, kma_48 hM, kma_49 hM, kma_50 hM, kma_52 hM, kma_53 hM, kma_54 hM, kma_55 hM, kma_56 hM, kma_51 hM]
  unfold mdy at hT
  grind (splits := 30)
theorem m_X7_dy (l : Launch) : jHolds vwCl l yX7_dy wsX7_dy 0 0 0 0 T_X7_dy := by
  refine m_X7_dy_of l (fun G Q vs K h H0 hT => ?_)
  unfold T_X7_dy at hT
  split at hT
  · obtain ⟨rfl, hT⟩ := hT
    exact ⟨Nat.le_of_ble_eq_true rfl, v_X7_dy hT H0⟩
  · exact hT.elim

/-! X7_time -/
def T_X7_time : jT := fun vs K h Q => match vs with
  | [.ref r0] => r0 = 37 ∧ (jXM K ∧ Q (some (.int (h 37 4))) K h)
  | _ => False
def sg_X7_time_0 : jS := [(o_aload 0, 1), (o_getf 7 4, 3), (o_ireti, 1)]
def cd_X7_time : Nat → jS := fun t => match t with
  | _ => []
theorem wl_X7_time_91 : Cond.fieldLink RX7 91 (TX7 4).1 (TX7 4).2.1 (TX7 4).2.2.1 ∈ wsX7_time := by decide +kernel
theorem wi_X7_time_X7 : ∀ w ∈ u_ws RX7 TX7 33, w ∈ wsX7_time := by decide +kernel
def E_X7_time (Γ : jΓ) (Q : jPost) : Prop := Γ.2.2.2.2.2.2.2.2.2.2.1 = 1 ∧ Γ.2.2.2.2.2.2.2.2.2.2.2.1 = vwCl ∧ jC Γ cX7_time RX7 "time" (some .int) wsX7_time 0 0 0 0 ∧ jR Γ Q 0 0
theorem oo_X7_time_0 {Γ : jΓ} {Q : jPost} (E : E_X7_time Γ Q) : jSA Γ Q 0 (o_aload 0) 1 := so_aload_n E.2.2.1 rfl dX7_time_0
theorem oo_X7_time_1 {Γ : jΓ} {Q : jPost} (E : E_X7_time Γ Q) : jSA Γ Q 1 (o_getf 7 4) 3 := so_getf (ci := 7) E.2.2.1 wi_X7_time_X7 (by rw [E.2.1]; rfl) 4 (by decide) wl_X7_time_91 dX7_time_1
theorem oo_X7_time_4 {Γ : jΓ} {Q : jPost} (E : E_X7_time Γ Q) : jSA Γ Q 4 (o_ireti) 1 := so_ireti E.2.2.1 E.2.2.2 dX7_time_4
theorem ok_X7_time_0 {Γ : jΓ} {Q : jPost} (E : E_X7_time Γ Q) : jSS Γ Q 0 sg_X7_time_0 := ⟨oo_X7_time_0 E, oo_X7_time_1 E, oo_X7_time_4 E, trivial⟩
theorem okc_X7_time {Γ : jΓ} {Q : jPost} (E : E_X7_time Γ Q) (t : Nat) : jSS Γ Q t (cd_X7_time t) := by
  unfold cd_X7_time
  trivial
theorem m_X7_time_of (l : Launch) (hv : ∀ (G : jGt) (Q : jPost) (vs : List Value) (K : List jK) (h : jM), jHd cd_X7_time G Q sg_X7_time_0 0 → T_X7_time vs K h Q → (lg_sl vs).length ≤ 1 ∧ G 0 (jinit vs 1) [] K h 0 0) : jHolds vwCl l yX7_time wsX7_time 0 0 0 0 T_X7_time := by
  refine jMet (cc := cX7_time) (maxL := 1) (rt := (some .int)) (by decide +kernel) rfl (fun Γ Q vs K h hl hn hcl C hR hT => hv (jG Γ) Q vs K h ?_ hT)
  · exact fun n L st K h ce sl => jwp_ok (okc_X7_time ⟨hn, hcl, C, hR⟩) n sg_X7_time_0 0 (ok_X7_time_0 ⟨hn, hcl, C, hR⟩) L st K h ce sl
set_option maxHeartbeats 4000000 in
set_option maxRecDepth 100000 in
theorem v_X7_time {G : jGt} {Q : jPost} {K : List jK} {h : jM}  (hT : jXM K ∧ Q (some (.int (h 37 4))) K h) (H0 : jHd cd_X7_time G Q sg_X7_time_0 0) : G 0 [some (.ref 37)] [] K h 0 0 := by
  obtain ⟨hM, hT⟩ := hT
  refine H0 60 _ _ _ _ _ _ ?_
  simp only [sg_X7_time_0, cd_X7_time, jwp, o_ic, o_lc, o_iload, o_lload, o_aload, o_istore, o_lstore, o_astore, o_iinc, o_pop, o_dup, o_dup2, o_iadd, o_isub, o_imul, o_iand, o_ior, o_ishl, o_ladd, o_lmul, o_land, o_lor, o_idiv, o_irem, o_ineg, o_i2l, o_l2i, o_i2b, o_i2s, o_lushr, o_lshr, o_lshl, o_lcmp, o_ifeq, o_ifne, o_iflt, o_ifge, o_ifgt, o_ifle, o_iceq, o_icne, o_iclt, o_icge, o_icgt, o_icle, o_goto, o_tsw, jsw, o_lsw, jlk, o_getf, o_putf, o_putz, o_iald, o_zald, o_iast, o_zast, o_aald, o_alen, o_gets, o_zld, o_zlen, o_cpy, o_call, o_callV, o_ireti, o_iretz, o_lret, o_vret, jg, js, jkp, jkill, jsp, jcs, jfw, jov, Value.category, Option.toList_some, Option.toList_none, List.nil_append, List.cons_append, List.append_nil, Nat.reduceAdd, true_and, and_true, jb0, jb01, jb1, jem, true_or, or_true, Classical.not_not, forall_const, List.length_cons, List.length_nil, Nat.reduceLeDiff, Nat.zero_le, Nat.reduceLT, and_self, not_true_eq_false, not_false_eq_true, false_imp_iff, true_imp_iff, implies_true, and_false, false_and, or_false, false_or, hM, km_37_0 hM, km_37_1 hM, km_37_2 hM, km_37_3 hM, km_37_4 hM, km_37_5 hM, km_37_6 hM, km_37_7 hM, km_37_8 hM, km_37_9 hM, km_37_10 hM, km_37_11 hM, km_37_12 hM, km_37_13 hM, km_37_14 hM, km_37_15 hM, km_37_16 hM, km_37_17 hM, km_37_18 hM, km_37_19 hM, km_37_20 hM, km_37_21 hM, km_37_22 hM, km_37_23 hM, km_37_24 hM, km_37_25 hM, km_37_26 hM, km_37_27 hM, km_37_28 hM, km_37_29 hM, km_37_30 hM, km_37_31 hM, km_37_32 hM, kmo_37 hM, kma_38 hM, kma_39 hM, kma_40 hM, kma_41 hM, kma_42 hM, kma_43 hM, kma_44 hM, kma_45 hM, kma_46 hM, kma_47 hM, kma_48 hM, kma_49 hM, kma_50 hM, kma_52 hM, kma_53 hM, kma_54 hM, kma_55 hM, kma_56 hM, kma_51 hM]
  exact hT
theorem m_X7_time (l : Launch) : jHolds vwCl l yX7_time wsX7_time 0 0 0 0 T_X7_time := by
  refine m_X7_time_of l (fun G Q vs K h H0 hT => ?_)
  unfold T_X7_time at hT
  split at hT
  · obtain ⟨rfl, hT⟩ := hT
    exact ⟨Nat.le_of_ble_eq_true rfl, v_X7_time hT H0⟩
  · exact hT.elim

/-! X7_less -/
def T_X7_less : jT := fun vs K h Q => match vs with
  | [.ref r0] => r0 = 37 ∧ (jXM K ∧ (h 37 8 = 0 → Q (some (.int (-2))) K h) ∧ (¬ h 37 8 = 0 → Q (some (.int (h 37 8 - 1))) K (up2 (up2 h 37 8 (h 37 8 - 1)) 37 20 1)))
  | _ => False
def sg_X7_less_0 : jS := [(o_aload 0, 1), (o_getf 7 8, 3), (o_ifne 10, 3), (o_ic (-2), 2), (o_ireti, 1)]
def sg_X7_less_10 : jS := [(o_aload 0, 1), (o_dup, 1), (o_getf 7 8, 3), (o_ic (1), 1), (o_isub, 1), (o_putf 7 8, 3), (o_aload 0, 1), (o_ic (1), 1), (o_putz 7 20, 3), (o_aload 0, 1), (o_getf 7 8, 3), (o_ireti, 1)]
def cd_X7_less : Nat → jS := fun t => match t with
  | 10 => sg_X7_less_10
  | _ => []
theorem wl_X7_less_81 : Cond.fieldLink RX7 81 (TX7 8).1 (TX7 8).2.1 (TX7 8).2.2.1 ∈ wsX7_less := by decide +kernel
theorem wl_X7_less_110 : Cond.fieldLink RX7 110 (TX7 20).1 (TX7 20).2.1 (TX7 20).2.2.1 ∈ wsX7_less := by decide +kernel
theorem wi_X7_less_X7 : ∀ w ∈ u_ws RX7 TX7 33, w ∈ wsX7_less := by decide +kernel
def E_X7_less (Γ : jΓ) (Q : jPost) : Prop := Γ.2.2.2.2.2.2.2.2.2.2.1 = 1 ∧ Γ.2.2.2.2.2.2.2.2.2.2.2.1 = vwCl ∧ jC Γ cX7_less RX7 "less" (some .int) wsX7_less 0 0 0 0 ∧ jR Γ Q 0 0
theorem oo_X7_less_0 {Γ : jΓ} {Q : jPost} (E : E_X7_less Γ Q) : jSA Γ Q 0 (o_aload 0) 1 := so_aload_n E.2.2.1 rfl dX7_less_0
theorem oo_X7_less_1 {Γ : jΓ} {Q : jPost} (E : E_X7_less Γ Q) : jSA Γ Q 1 (o_getf 7 8) 3 := so_getf (ci := 7) E.2.2.1 wi_X7_less_X7 (by rw [E.2.1]; rfl) 8 (by decide) wl_X7_less_81 dX7_less_1
theorem oo_X7_less_4 {Γ : jΓ} {Q : jPost} (E : E_X7_less Γ Q) : jSA Γ Q 4 (o_ifne 10) 3 := so_ifne E.2.2.1 (by decide) dX7_less_4
theorem oo_X7_less_7 {Γ : jΓ} {Q : jPost} (E : E_X7_less Γ Q) : jSA Γ Q 7 (o_ic (-2)) 2 := so_bipush E.2.2.1 rfl dX7_less_7
theorem oo_X7_less_9 {Γ : jΓ} {Q : jPost} (E : E_X7_less Γ Q) : jSA Γ Q 9 (o_ireti) 1 := so_ireti E.2.2.1 E.2.2.2 dX7_less_9
theorem oo_X7_less_10 {Γ : jΓ} {Q : jPost} (E : E_X7_less Γ Q) : jSA Γ Q 10 (o_aload 0) 1 := so_aload_n E.2.2.1 rfl dX7_less_10
theorem oo_X7_less_11 {Γ : jΓ} {Q : jPost} (E : E_X7_less Γ Q) : jSA Γ Q 11 (o_dup) 1 := so_dup E.2.2.1 dX7_less_11
theorem oo_X7_less_12 {Γ : jΓ} {Q : jPost} (E : E_X7_less Γ Q) : jSA Γ Q 12 (o_getf 7 8) 3 := so_getf (ci := 7) E.2.2.1 wi_X7_less_X7 (by rw [E.2.1]; rfl) 8 (by decide) wl_X7_less_81 dX7_less_12
theorem oo_X7_less_15 {Γ : jΓ} {Q : jPost} (E : E_X7_less Γ Q) : jSA Γ Q 15 (o_ic (1)) 1 := so_iconst E.2.2.1 rfl dX7_less_15
theorem oo_X7_less_16 {Γ : jΓ} {Q : jPost} (E : E_X7_less Γ Q) : jSA Γ Q 16 (o_isub) 1 := so_isub E.2.2.1 dX7_less_16
theorem oo_X7_less_17 {Γ : jΓ} {Q : jPost} (E : E_X7_less Γ Q) : jSA Γ Q 17 (o_putf 7 8) 3 := so_putf (ci := 7) E.2.2.1 tyX7 tyX7_ok nmX7 wi_X7_less_X7 (by rw [E.2.1]; rfl) 8 (by decide) wl_X7_less_81 rfl (by decide +kernel) dX7_less_17
theorem oo_X7_less_20 {Γ : jΓ} {Q : jPost} (E : E_X7_less Γ Q) : jSA Γ Q 20 (o_aload 0) 1 := so_aload_n E.2.2.1 rfl dX7_less_20
theorem oo_X7_less_21 {Γ : jΓ} {Q : jPost} (E : E_X7_less Γ Q) : jSA Γ Q 21 (o_ic (1)) 1 := so_iconst E.2.2.1 rfl dX7_less_21
theorem oo_X7_less_22 {Γ : jΓ} {Q : jPost} (E : E_X7_less Γ Q) : jSA Γ Q 22 (o_putz 7 20) 3 := so_putz (ci := 7) E.2.2.1 tyX7 tyX7_ok nmX7 wi_X7_less_X7 (by rw [E.2.1]; rfl) 20 (by decide) wl_X7_less_110 rfl (by decide +kernel) dX7_less_22
theorem oo_X7_less_25 {Γ : jΓ} {Q : jPost} (E : E_X7_less Γ Q) : jSA Γ Q 25 (o_aload 0) 1 := so_aload_n E.2.2.1 rfl dX7_less_25
theorem oo_X7_less_26 {Γ : jΓ} {Q : jPost} (E : E_X7_less Γ Q) : jSA Γ Q 26 (o_getf 7 8) 3 := so_getf (ci := 7) E.2.2.1 wi_X7_less_X7 (by rw [E.2.1]; rfl) 8 (by decide) wl_X7_less_81 dX7_less_26
theorem oo_X7_less_29 {Γ : jΓ} {Q : jPost} (E : E_X7_less Γ Q) : jSA Γ Q 29 (o_ireti) 1 := so_ireti E.2.2.1 E.2.2.2 dX7_less_29
theorem ok_X7_less_0 {Γ : jΓ} {Q : jPost} (E : E_X7_less Γ Q) : jSS Γ Q 0 sg_X7_less_0 := ⟨oo_X7_less_0 E, oo_X7_less_1 E, oo_X7_less_4 E, oo_X7_less_7 E, oo_X7_less_9 E, trivial⟩
theorem ok_X7_less_10 {Γ : jΓ} {Q : jPost} (E : E_X7_less Γ Q) : jSS Γ Q 10 sg_X7_less_10 := ⟨oo_X7_less_10 E, oo_X7_less_11 E, oo_X7_less_12 E, oo_X7_less_15 E, oo_X7_less_16 E, oo_X7_less_17 E, oo_X7_less_20 E, oo_X7_less_21 E, oo_X7_less_22 E, oo_X7_less_25 E, oo_X7_less_26 E, oo_X7_less_29 E, trivial⟩
theorem okc_X7_less {Γ : jΓ} {Q : jPost} (E : E_X7_less Γ Q) (t : Nat) : jSS Γ Q t (cd_X7_less t) := by
  unfold cd_X7_less
  split
  · exact ok_X7_less_10 E
  · trivial
theorem m_X7_less_of (l : Launch) (hv : ∀ (G : jGt) (Q : jPost) (vs : List Value) (K : List jK) (h : jM), jHd cd_X7_less G Q sg_X7_less_0 0 → T_X7_less vs K h Q → (lg_sl vs).length ≤ 1 ∧ G 0 (jinit vs 1) [] K h 0 0) : jHolds vwCl l yX7_less wsX7_less 0 0 0 0 T_X7_less := by
  refine jMet (cc := cX7_less) (maxL := 1) (rt := (some .int)) (by decide +kernel) rfl (fun Γ Q vs K h hl hn hcl C hR hT => hv (jG Γ) Q vs K h ?_ hT)
  · exact fun n L st K h ce sl => jwp_ok (okc_X7_less ⟨hn, hcl, C, hR⟩) n sg_X7_less_0 0 (ok_X7_less_0 ⟨hn, hcl, C, hR⟩) L st K h ce sl
set_option maxHeartbeats 4000000 in
set_option maxRecDepth 100000 in
theorem v_X7_less {G : jGt} {Q : jPost} {K : List jK} {h : jM}  (hT : jXM K ∧ (h 37 8 = 0 → Q (some (.int (-2))) K h) ∧ (¬ h 37 8 = 0 → Q (some (.int (h 37 8 - 1))) K (up2 (up2 h 37 8 (h 37 8 - 1)) 37 20 1))) (H0 : jHd cd_X7_less G Q sg_X7_less_0 0) : G 0 [some (.ref 37)] [] K h 0 0 := by
  obtain ⟨hM, hT0, hT1⟩ := hT
  refine H0 60 _ _ _ _ _ _ ?_
  simp only [sg_X7_less_0, sg_X7_less_10, cd_X7_less, jwp, o_ic, o_lc, o_iload, o_lload, o_aload, o_istore, o_lstore, o_astore, o_iinc, o_pop, o_dup, o_dup2, o_iadd, o_isub, o_imul, o_iand, o_ior, o_ishl, o_ladd, o_lmul, o_land, o_lor, o_idiv, o_irem, o_ineg, o_i2l, o_l2i, o_i2b, o_i2s, o_lushr, o_lshr, o_lshl, o_lcmp, o_ifeq, o_ifne, o_iflt, o_ifge, o_ifgt, o_ifle, o_iceq, o_icne, o_iclt, o_icge, o_icgt, o_icle, o_goto, o_tsw, jsw, o_lsw, jlk, o_getf, o_putf, o_putz, o_iald, o_zald, o_iast, o_zast, o_aald, o_alen, o_gets, o_zld, o_zlen, o_cpy, o_call, o_callV, o_ireti, o_iretz, o_lret, o_vret, jg, js, jkp, jkill, jsp, jcs, jfw, jov, Value.category, Option.toList_some, Option.toList_none, List.nil_append, List.cons_append, List.append_nil, Nat.reduceAdd, true_and, and_true, jb0, jb01, jb1, jem, true_or, or_true, Classical.not_not, forall_const, List.length_cons, List.length_nil, Nat.reduceLeDiff, Nat.zero_le, Nat.reduceLT, and_self, not_true_eq_false, not_false_eq_true, false_imp_iff, true_imp_iff, implies_true, and_false, false_and, or_false, false_or, hM, km_37_0 hM, km_37_1 hM, km_37_2 hM, km_37_3 hM, km_37_4 hM, km_37_5 hM, km_37_6 hM, km_37_7 hM, km_37_8 hM, km_37_9 hM, km_37_10 hM, km_37_11 hM, km_37_12 hM, km_37_13 hM, km_37_14 hM, km_37_15 hM, km_37_16 hM, km_37_17 hM, km_37_18 hM, km_37_19 hM, km_37_20 hM, km_37_21 hM, km_37_22 hM, km_37_23 hM, km_37_24 hM, km_37_25 hM, km_37_26 hM, km_37_27 hM, km_37_28 hM, km_37_29 hM, km_37_30 hM, km_37_31 hM, km_37_32 hM, kmo_37 hM, kma_38 hM, kma_39 hM, kma_40 hM, kma_41 hM, kma_42 hM, kma_43 hM, kma_44 hM, kma_45 hM, kma_46 hM, kma_47 hM, kma_48 hM, kma_49 hM, kma_50 hM, kma_52 hM, kma_53 hM, kma_54 hM, kma_55 hM, kma_56 hM, kma_51 hM, up2_s, upd_s, upd_n (show ¬ 8 = 20 by decide)]
  exact ⟨hT1, hT0⟩
theorem m_X7_less (l : Launch) : jHolds vwCl l yX7_less wsX7_less 0 0 0 0 T_X7_less := by
  refine m_X7_less_of l (fun G Q vs K h H0 hT => ?_)
  unfold T_X7_less at hT
  split at hT
  · obtain ⟨rfl, hT⟩ := hT
    exact ⟨Nat.le_of_ble_eq_true rfl, v_X7_less hT H0⟩
  · exact hT.elim

/-! X7_paint -/
def T_X7_paint : jT := fun vs K h Q => match vs with
  | [.ref r0, .int x, .int y, .int c] => r0 = 37 ∧ (jXM K ∧ (¬ (onF x y ∧ 0 ≤ c ∧ c ≤ h 37 1 - 1) → Q (some (.int (-1))) K h) ∧ (onF x y ∧ 0 ≤ c ∧ c ≤ h 37 1 - 1 → Q (some (.int (h 38 (jpl x y).toNatClampNeg))) K (up2 (up2 h 38 (jpl x y).toNatClampNeg c) 37 20 1)))
  | _ => False
def sg_X7_paint_0 : jS := [(o_iload 1, 1), (o_iload 2, 1), (o_call 2 T_X7_isCell, 3), (o_ifeq 22, 3), (o_iload 3, 1), (o_ic (0), 1), (o_aload 0, 1), (o_getf 7 1, 3), (o_ic (1), 1), (o_isub, 1), (o_call 3 T_X7_in, 3), (o_ifne 24, 3), (o_ic (-1), 1), (o_ireti, 1)]
def sg_X7_paint_22 : jS := [(o_ic (-1), 1), (o_ireti, 1)]
def sg_X7_paint_24 : jS := [(o_aload 0, 1), (o_getf 7 2, 3), (o_iload 1, 1), (o_iload 2, 1), (o_call 2 T_X7_cell, 3), (o_iald, 1), (o_istore 4, 2), (o_aload 0, 1), (o_getf 7 2, 3), (o_iload 1, 1), (o_iload 2, 1), (o_call 2 T_X7_cell, 3), (o_iload 3, 1), (o_iast, 1), (o_aload 0, 1), (o_ic (1), 1), (o_putz 7 20, 3), (o_iload 4, 2), (o_ireti, 1)]
def cd_X7_paint : Nat → jS := fun t => match t with
  | 22 => sg_X7_paint_22
  | 24 => sg_X7_paint_24
  | _ => []
theorem wl_X7_paint_14 : Cond.fieldLink RX7 14 (TX7 2).1 (TX7 2).2.1 (TX7 2).2.2.1 ∈ wsX7_paint := by decide +kernel
theorem wl_X7_paint_84 : Cond.fieldLink RX7 84 (TX7 1).1 (TX7 1).2.1 (TX7 1).2.2.1 ∈ wsX7_paint := by decide +kernel
theorem wl_X7_paint_110 : Cond.fieldLink RX7 110 (TX7 20).1 (TX7 20).2.1 (TX7 20).2.2.1 ∈ wsX7_paint := by decide +kernel
theorem wi_X7_paint_X7 : ∀ w ∈ u_ws RX7 TX7 33, w ∈ wsX7_paint := by decide +kernel
def E_X7_paint (Γ : jΓ) (Q : jPost) : Prop := Γ.2.2.2.2.2.2.2.2.2.2.1 = 5 ∧ Γ.2.2.2.2.2.2.2.2.2.2.2.1 = vwCl ∧ jC Γ cX7_paint RX7 "paint" (some .int) wsX7_paint 2 43 0 0 ∧ jR Γ Q 0 0
theorem oo_X7_paint_0 {Γ : jΓ} {Q : jPost} (E : E_X7_paint Γ Q) : jSA Γ Q 0 (o_iload 1) 1 := so_iload_n E.2.2.1 rfl dX7_paint_0
theorem oo_X7_paint_1 {Γ : jΓ} {Q : jPost} (E : E_X7_paint Γ Q) : jSA Γ Q 1 (o_iload 2) 1 := so_iload_n E.2.2.1 rfl dX7_paint_1
theorem oo_X7_paint_2 {Γ : jΓ} {Q : jPost} (E : E_X7_paint Γ Q) : jSA Γ Q 2 (o_call 2 T_X7_isCell) 3 := so_callS E.2.2.1 gX7_paint_X7_isCell (by decide +kernel) rfl (by rw [E.2.1]; exact m_X7_isCell _) (by decide) (by decide) dX7_paint_2
theorem oo_X7_paint_5 {Γ : jΓ} {Q : jPost} (E : E_X7_paint Γ Q) : jSA Γ Q 5 (o_ifeq 22) 3 := so_ifeq E.2.2.1 (by decide) dX7_paint_5
theorem oo_X7_paint_8 {Γ : jΓ} {Q : jPost} (E : E_X7_paint Γ Q) : jSA Γ Q 8 (o_iload 3) 1 := so_iload_n E.2.2.1 rfl dX7_paint_8
theorem oo_X7_paint_9 {Γ : jΓ} {Q : jPost} (E : E_X7_paint Γ Q) : jSA Γ Q 9 (o_ic (0)) 1 := so_iconst E.2.2.1 rfl dX7_paint_9
theorem oo_X7_paint_10 {Γ : jΓ} {Q : jPost} (E : E_X7_paint Γ Q) : jSA Γ Q 10 (o_aload 0) 1 := so_aload_n E.2.2.1 rfl dX7_paint_10
theorem oo_X7_paint_11 {Γ : jΓ} {Q : jPost} (E : E_X7_paint Γ Q) : jSA Γ Q 11 (o_getf 7 1) 3 := so_getf (ci := 7) E.2.2.1 wi_X7_paint_X7 (by rw [E.2.1]; rfl) 1 (by decide) wl_X7_paint_84 dX7_paint_11
theorem oo_X7_paint_14 {Γ : jΓ} {Q : jPost} (E : E_X7_paint Γ Q) : jSA Γ Q 14 (o_ic (1)) 1 := so_iconst E.2.2.1 rfl dX7_paint_14
theorem oo_X7_paint_15 {Γ : jΓ} {Q : jPost} (E : E_X7_paint Γ Q) : jSA Γ Q 15 (o_isub) 1 := so_isub E.2.2.1 dX7_paint_15
theorem oo_X7_paint_16 {Γ : jΓ} {Q : jPost} (E : E_X7_paint Γ Q) : jSA Γ Q 16 (o_call 3 T_X7_in) 3 := so_callS E.2.2.1 gX7_paint_X7_in (by decide +kernel) rfl (by rw [E.2.1]; exact m_X7_in _) (by decide) (by decide) dX7_paint_16
theorem oo_X7_paint_19 {Γ : jΓ} {Q : jPost} (E : E_X7_paint Γ Q) : jSA Γ Q 19 (o_ifne 24) 3 := so_ifne E.2.2.1 (by decide) dX7_paint_19
theorem oo_X7_paint_22 {Γ : jΓ} {Q : jPost} (E : E_X7_paint Γ Q) : jSA Γ Q 22 (o_ic (-1)) 1 := so_iconst E.2.2.1 rfl dX7_paint_22
theorem oo_X7_paint_23 {Γ : jΓ} {Q : jPost} (E : E_X7_paint Γ Q) : jSA Γ Q 23 (o_ireti) 1 := so_ireti E.2.2.1 E.2.2.2 dX7_paint_23
theorem oo_X7_paint_24 {Γ : jΓ} {Q : jPost} (E : E_X7_paint Γ Q) : jSA Γ Q 24 (o_aload 0) 1 := so_aload_n E.2.2.1 rfl dX7_paint_24
theorem oo_X7_paint_25 {Γ : jΓ} {Q : jPost} (E : E_X7_paint Γ Q) : jSA Γ Q 25 (o_getf 7 2) 3 := so_getf (ci := 7) E.2.2.1 wi_X7_paint_X7 (by rw [E.2.1]; rfl) 2 (by decide) wl_X7_paint_14 dX7_paint_25
theorem oo_X7_paint_28 {Γ : jΓ} {Q : jPost} (E : E_X7_paint Γ Q) : jSA Γ Q 28 (o_iload 1) 1 := so_iload_n E.2.2.1 rfl dX7_paint_28
theorem oo_X7_paint_29 {Γ : jΓ} {Q : jPost} (E : E_X7_paint Γ Q) : jSA Γ Q 29 (o_iload 2) 1 := so_iload_n E.2.2.1 rfl dX7_paint_29
theorem oo_X7_paint_30 {Γ : jΓ} {Q : jPost} (E : E_X7_paint Γ Q) : jSA Γ Q 30 (o_call 2 T_X7_cell) 3 := so_callS E.2.2.1 gX7_paint_X7_cell (by decide +kernel) rfl (by rw [E.2.1]; exact m_X7_cell _) (by decide) (by decide) dX7_paint_30
theorem oo_X7_paint_33 {Γ : jΓ} {Q : jPost} (E : E_X7_paint Γ Q) : jSA Γ Q 33 (o_iald) 1 := so_iald E.2.2.1 dX7_paint_33
theorem oo_X7_paint_34 {Γ : jΓ} {Q : jPost} (E : E_X7_paint Γ Q) : jSA Γ Q 34 (o_istore 4) 2 := so_istore E.2.2.1 (by rw [E.1]; decide) dX7_paint_34
theorem oo_X7_paint_36 {Γ : jΓ} {Q : jPost} (E : E_X7_paint Γ Q) : jSA Γ Q 36 (o_aload 0) 1 := so_aload_n E.2.2.1 rfl dX7_paint_36
theorem oo_X7_paint_37 {Γ : jΓ} {Q : jPost} (E : E_X7_paint Γ Q) : jSA Γ Q 37 (o_getf 7 2) 3 := so_getf (ci := 7) E.2.2.1 wi_X7_paint_X7 (by rw [E.2.1]; rfl) 2 (by decide) wl_X7_paint_14 dX7_paint_37
theorem oo_X7_paint_40 {Γ : jΓ} {Q : jPost} (E : E_X7_paint Γ Q) : jSA Γ Q 40 (o_iload 1) 1 := so_iload_n E.2.2.1 rfl dX7_paint_40
theorem oo_X7_paint_41 {Γ : jΓ} {Q : jPost} (E : E_X7_paint Γ Q) : jSA Γ Q 41 (o_iload 2) 1 := so_iload_n E.2.2.1 rfl dX7_paint_41
theorem oo_X7_paint_42 {Γ : jΓ} {Q : jPost} (E : E_X7_paint Γ Q) : jSA Γ Q 42 (o_call 2 T_X7_cell) 3 := so_callS E.2.2.1 gX7_paint_X7_cell (by decide +kernel) rfl (by rw [E.2.1]; exact m_X7_cell _) (by decide) (by decide) dX7_paint_42
theorem oo_X7_paint_45 {Γ : jΓ} {Q : jPost} (E : E_X7_paint Γ Q) : jSA Γ Q 45 (o_iload 3) 1 := so_iload_n E.2.2.1 rfl dX7_paint_45
theorem oo_X7_paint_46 {Γ : jΓ} {Q : jPost} (E : E_X7_paint Γ Q) : jSA Γ Q 46 (o_iast) 1 := so_iast E.2.2.1 dX7_paint_46
theorem oo_X7_paint_47 {Γ : jΓ} {Q : jPost} (E : E_X7_paint Γ Q) : jSA Γ Q 47 (o_aload 0) 1 := so_aload_n E.2.2.1 rfl dX7_paint_47
theorem oo_X7_paint_48 {Γ : jΓ} {Q : jPost} (E : E_X7_paint Γ Q) : jSA Γ Q 48 (o_ic (1)) 1 := so_iconst E.2.2.1 rfl dX7_paint_48
theorem oo_X7_paint_49 {Γ : jΓ} {Q : jPost} (E : E_X7_paint Γ Q) : jSA Γ Q 49 (o_putz 7 20) 3 := so_putz (ci := 7) E.2.2.1 tyX7 tyX7_ok nmX7 wi_X7_paint_X7 (by rw [E.2.1]; rfl) 20 (by decide) wl_X7_paint_110 rfl (by decide +kernel) dX7_paint_49
theorem oo_X7_paint_52 {Γ : jΓ} {Q : jPost} (E : E_X7_paint Γ Q) : jSA Γ Q 52 (o_iload 4) 2 := so_iload E.2.2.1 dX7_paint_52
theorem oo_X7_paint_54 {Γ : jΓ} {Q : jPost} (E : E_X7_paint Γ Q) : jSA Γ Q 54 (o_ireti) 1 := so_ireti E.2.2.1 E.2.2.2 dX7_paint_54
theorem ok_X7_paint_0 {Γ : jΓ} {Q : jPost} (E : E_X7_paint Γ Q) : jSS Γ Q 0 sg_X7_paint_0 := ⟨oo_X7_paint_0 E, oo_X7_paint_1 E, oo_X7_paint_2 E, oo_X7_paint_5 E, oo_X7_paint_8 E, oo_X7_paint_9 E, oo_X7_paint_10 E, oo_X7_paint_11 E, oo_X7_paint_14 E, oo_X7_paint_15 E, oo_X7_paint_16 E, oo_X7_paint_19 E, oo_X7_paint_22 E, oo_X7_paint_23 E, trivial⟩
theorem ok_X7_paint_22 {Γ : jΓ} {Q : jPost} (E : E_X7_paint Γ Q) : jSS Γ Q 22 sg_X7_paint_22 := ⟨oo_X7_paint_22 E, oo_X7_paint_23 E, trivial⟩
theorem ok_X7_paint_24 {Γ : jΓ} {Q : jPost} (E : E_X7_paint Γ Q) : jSS Γ Q 24 sg_X7_paint_24 := ⟨oo_X7_paint_24 E, oo_X7_paint_25 E, oo_X7_paint_28 E, oo_X7_paint_29 E, oo_X7_paint_30 E, oo_X7_paint_33 E, oo_X7_paint_34 E, oo_X7_paint_36 E, oo_X7_paint_37 E, oo_X7_paint_40 E, oo_X7_paint_41 E, oo_X7_paint_42 E, oo_X7_paint_45 E, oo_X7_paint_46 E, oo_X7_paint_47 E, oo_X7_paint_48 E, oo_X7_paint_49 E, oo_X7_paint_52 E, oo_X7_paint_54 E, trivial⟩
theorem okc_X7_paint {Γ : jΓ} {Q : jPost} (E : E_X7_paint Γ Q) (t : Nat) : jSS Γ Q t (cd_X7_paint t) := by
  unfold cd_X7_paint
  split
  · exact ok_X7_paint_22 E
  · exact ok_X7_paint_24 E
  · trivial
theorem m_X7_paint_of (l : Launch) (hv : ∀ (G : jGt) (Q : jPost) (vs : List Value) (K : List jK) (h : jM), jHd cd_X7_paint G Q sg_X7_paint_0 0 → T_X7_paint vs K h Q → (lg_sl vs).length ≤ 5 ∧ G 0 (jinit vs 5) [] K h 0 0) : jHolds vwCl l yX7_paint wsX7_paint 2 43 0 0 T_X7_paint := by
  refine jMet (cc := cX7_paint) (maxL := 5) (rt := (some .int)) (by decide +kernel) rfl (fun Γ Q vs K h hl hn hcl C hR hT => hv (jG Γ) Q vs K h ?_ hT)
  · exact fun n L st K h ce sl => jwp_ok (okc_X7_paint ⟨hn, hcl, C, hR⟩) n sg_X7_paint_0 0 (ok_X7_paint_0 ⟨hn, hcl, C, hR⟩) L st K h ce sl
set_option maxHeartbeats 4000000 in
set_option maxRecDepth 100000 in
theorem v_X7_paint {G : jGt} {Q : jPost} {K : List jK} {h : jM} {x : Int32} {y : Int32} {c : Int32} (hT : jXM K ∧ (¬ (onF x y ∧ 0 ≤ c ∧ c ≤ h 37 1 - 1) → Q (some (.int (-1))) K h) ∧ (onF x y ∧ 0 ≤ c ∧ c ≤ h 37 1 - 1 → Q (some (.int (h 38 (jpl x y).toNatClampNeg))) K (up2 (up2 h 38 (jpl x y).toNatClampNeg c) 37 20 1))) (H0 : jHd cd_X7_paint G Q sg_X7_paint_0 0) : G 0 [some (.ref 37), some (.int x), some (.int y), some (.int c), none] [] K h 0 0 := by
  obtain ⟨hM, hT0, hT1⟩ := hT
  refine H0 80 _ _ _ _ _ _ ?_
  by_cases c1 : onF x y
  · have hp := jpl_in c1
    by_cases c2 : 0 ≤ c ∧ c ≤ h 37 1 - 1
    · have hT1 := hT1 ⟨c1, c2⟩
      simp only [sg_X7_paint_0, sg_X7_paint_22, sg_X7_paint_24, cd_X7_paint, jwp, o_ic, o_lc, o_iload, o_lload, o_aload, o_istore, o_lstore, o_astore, o_iinc, o_pop, o_dup, o_dup2, o_iadd, o_isub, o_imul, o_iand, o_ior, o_ishl, o_ladd, o_lmul, o_land, o_lor, o_idiv, o_irem, o_ineg, o_i2l, o_l2i, o_i2b, o_i2s, o_lushr, o_lshr, o_lshl, o_lcmp, o_ifeq, o_ifne, o_iflt, o_ifge, o_ifgt, o_ifle, o_iceq, o_icne, o_iclt, o_icge, o_icgt, o_icle, o_goto, o_tsw, jsw, o_lsw, jlk, o_getf, o_putf, o_putz, o_iald, o_zald, o_iast, o_zast, o_aald, o_alen, o_gets, o_zld, o_zlen, o_cpy, o_call, o_callV, o_ireti, o_iretz, o_lret, o_vret, jg, js, jkp, jkill, jsp, jcs, jfw, jov, Value.category, Option.toList_some, Option.toList_none, List.nil_append, List.cons_append, List.append_nil, Nat.reduceAdd, true_and, and_true, jb0, jb01, jb1, jem, true_or, or_true, Classical.not_not, forall_const, List.length_cons, List.length_nil, Nat.reduceLeDiff, Nat.zero_le, Nat.reduceLT, and_self, not_true_eq_false, not_false_eq_true, false_imp_iff, true_imp_iff, implies_true, and_false, false_and, or_false, false_or, hM, km_37_0 hM, km_37_1 hM, km_37_2 hM, km_37_3 hM, km_37_4 hM, km_37_5 hM, km_37_6 hM, km_37_7 hM, km_37_8 hM, km_37_9 hM, km_37_10 hM, km_37_11 hM, km_37_12 hM, km_37_13 hM, km_37_14 hM, km_37_15 hM, km_37_16 hM, km_37_17 hM, km_37_18 hM, km_37_19 hM, km_37_20 hM, km_37_21 hM, km_37_22 hM, km_37_23 hM, km_37_24 hM, km_37_25 hM, km_37_26 hM, km_37_27 hM, km_37_28 hM, km_37_29 hM, km_37_30 hM, km_37_31 hM, km_37_32 hM, kmo_37 hM, kma_38 hM, kma_39 hM, kma_40 hM, kma_41 hM, kma_42 hM, kma_43 hM, kma_44 hM, kma_45 hM, kma_46 hM, kma_47 hM, kma_48 hM, kma_49 hM, kma_50 hM, kma_52 hM, kma_53 hM, kma_54 hM, kma_55 hM, kma_56 hM, kma_51 hM, T_X7_isCell, T_X7_in, T_X7_cell, c1, hp, c2]
      exact hT1
    · have hT0 := hT0 (fun z => c2 z.2)
      simp only [sg_X7_paint_0, sg_X7_paint_22, sg_X7_paint_24, cd_X7_paint, jwp, o_ic, o_lc, o_iload, o_lload, o_aload, o_istore, o_lstore, o_astore, o_iinc, o_pop, o_dup, o_dup2, o_iadd, o_isub, o_imul, o_iand, o_ior, o_ishl, o_ladd, o_lmul, o_land, o_lor, o_idiv, o_irem, o_ineg, o_i2l, o_l2i, o_i2b, o_i2s, o_lushr, o_lshr, o_lshl, o_lcmp, o_ifeq, o_ifne, o_iflt, o_ifge, o_ifgt, o_ifle, o_iceq, o_icne, o_iclt, o_icge, o_icgt, o_icle, o_goto, o_tsw, jsw, o_lsw, jlk, o_getf, o_putf, o_putz, o_iald, o_zald, o_iast, o_zast, o_aald, o_alen, o_gets, o_zld, o_zlen, o_cpy, o_call, o_callV, o_ireti, o_iretz, o_lret, o_vret, jg, js, jkp, jkill, jsp, jcs, jfw, jov, Value.category, Option.toList_some, Option.toList_none, List.nil_append, List.cons_append, List.append_nil, Nat.reduceAdd, true_and, and_true, jb0, jb01, jb1, jem, true_or, or_true, Classical.not_not, forall_const, List.length_cons, List.length_nil, Nat.reduceLeDiff, Nat.zero_le, Nat.reduceLT, and_self, not_true_eq_false, not_false_eq_true, false_imp_iff, true_imp_iff, implies_true, and_false, false_and, or_false, false_or, hM, km_37_0 hM, km_37_1 hM, km_37_2 hM, km_37_3 hM, km_37_4 hM, km_37_5 hM, km_37_6 hM, km_37_7 hM, km_37_8 hM, km_37_9 hM, km_37_10 hM, km_37_11 hM, km_37_12 hM, km_37_13 hM, km_37_14 hM, km_37_15 hM, km_37_16 hM, km_37_17 hM, km_37_18 hM, km_37_19 hM, km_37_20 hM, km_37_21 hM, km_37_22 hM, km_37_23 hM, km_37_24 hM, km_37_25 hM, km_37_26 hM, km_37_27 hM, km_37_28 hM, km_37_29 hM, km_37_30 hM, km_37_31 hM, km_37_32 hM, kmo_37 hM, kma_38 hM, kma_39 hM, kma_40 hM, kma_41 hM, kma_42 hM, kma_43 hM, kma_44 hM, kma_45 hM, kma_46 hM, kma_47 hM, kma_48 hM, kma_49 hM, kma_50 hM, kma_52 hM, kma_53 hM, kma_54 hM, kma_55 hM, kma_56 hM, kma_51 hM, T_X7_isCell, T_X7_in, T_X7_cell, c1, hp, c2]
      exact hT0
  · have hT0 := hT0 (fun z => c1 z.1)
    simp only [sg_X7_paint_0, sg_X7_paint_22, sg_X7_paint_24, cd_X7_paint, jwp, o_ic, o_lc, o_iload, o_lload, o_aload, o_istore, o_lstore, o_astore, o_iinc, o_pop, o_dup, o_dup2, o_iadd, o_isub, o_imul, o_iand, o_ior, o_ishl, o_ladd, o_lmul, o_land, o_lor, o_idiv, o_irem, o_ineg, o_i2l, o_l2i, o_i2b, o_i2s, o_lushr, o_lshr, o_lshl, o_lcmp, o_ifeq, o_ifne, o_iflt, o_ifge, o_ifgt, o_ifle, o_iceq, o_icne, o_iclt, o_icge, o_icgt, o_icle, o_goto, o_tsw, jsw, o_lsw, jlk, o_getf, o_putf, o_putz, o_iald, o_zald, o_iast, o_zast, o_aald, o_alen, o_gets, o_zld, o_zlen, o_cpy, o_call, o_callV, o_ireti, o_iretz, o_lret, o_vret, jg, js, jkp, jkill, jsp, jcs, jfw, jov, Value.category, Option.toList_some, Option.toList_none, List.nil_append, List.cons_append, List.append_nil, Nat.reduceAdd, true_and, and_true, jb0, jb01, jb1, jem, true_or, or_true, Classical.not_not, forall_const, List.length_cons, List.length_nil, Nat.reduceLeDiff, Nat.zero_le, Nat.reduceLT, and_self, not_true_eq_false, not_false_eq_true, false_imp_iff, true_imp_iff, implies_true, and_false, false_and, or_false, false_or, hM, km_37_0 hM, km_37_1 hM, km_37_2 hM, km_37_3 hM, km_37_4 hM, km_37_5 hM, km_37_6 hM, km_37_7 hM, km_37_8 hM, km_37_9 hM, km_37_10 hM, km_37_11 hM, km_37_12 hM, km_37_13 hM, km_37_14 hM, km_37_15 hM, km_37_16 hM, km_37_17 hM, km_37_18 hM, km_37_19 hM, km_37_20 hM, km_37_21 hM, km_37_22 hM, km_37_23 hM, km_37_24 hM, km_37_25 hM, km_37_26 hM, km_37_27 hM, km_37_28 hM, km_37_29 hM, km_37_30 hM, km_37_31 hM, km_37_32 hM, kmo_37 hM, kma_38 hM, kma_39 hM, kma_40 hM, kma_41 hM, kma_42 hM, kma_43 hM, kma_44 hM, kma_45 hM, kma_46 hM, kma_47 hM, kma_48 hM, kma_49 hM, kma_50 hM, kma_52 hM, kma_53 hM, kma_54 hM, kma_55 hM, kma_56 hM, kma_51 hM, T_X7_isCell, T_X7_in, T_X7_cell, c1]
    exact hT0
theorem m_X7_paint (l : Launch) : jHolds vwCl l yX7_paint wsX7_paint 2 43 0 0 T_X7_paint := by
  refine m_X7_paint_of l (fun G Q vs K h H0 hT => ?_)
  unfold T_X7_paint at hT
  split at hT
  · obtain ⟨rfl, hT⟩ := hT
    exact ⟨Nat.le_of_ble_eq_true rfl, v_X7_paint hT H0⟩
  · exact hT.elim

/-! X7_colour -/
def T_X7_colour : jT := fun vs K h Q => match vs with
  | [.ref r0, .int x, .int y] => r0 = 37 ∧ (jXM K ∧ Q (some (.int (jcb (h 38) (-1) x y))) K h)
  | _ => False
def sg_X7_colour_0 : jS := [(o_iload 1, 1), (o_iload 2, 1), (o_call 2 T_X7_isCell, 3), (o_ifeq 21, 3), (o_aload 0, 1), (o_getf 7 2, 3), (o_iload 1, 1), (o_iload 2, 1), (o_call 2 T_X7_cell, 3), (o_iald, 1), (o_goto 22, 3)]
def sg_X7_colour_21 : jS := [(o_ic (-1), 1), (o_ireti, 1)]
def sg_X7_colour_22 : jS := [(o_ireti, 1)]
def cd_X7_colour : Nat → jS := fun t => match t with
  | 21 => sg_X7_colour_21
  | 22 => sg_X7_colour_22
  | _ => []
theorem wl_X7_colour_14 : Cond.fieldLink RX7 14 (TX7 2).1 (TX7 2).2.1 (TX7 2).2.2.1 ∈ wsX7_colour := by decide +kernel
theorem wi_X7_colour_X7 : ∀ w ∈ u_ws RX7 TX7 33, w ∈ wsX7_colour := by decide +kernel
def E_X7_colour (Γ : jΓ) (Q : jPost) : Prop := Γ.2.2.2.2.2.2.2.2.2.2.1 = 3 ∧ Γ.2.2.2.2.2.2.2.2.2.2.2.1 = vwCl ∧ jC Γ cX7_colour RX7 "colour" (some .int) wsX7_colour 2 43 0 0 ∧ jR Γ Q 0 0
theorem oo_X7_colour_0 {Γ : jΓ} {Q : jPost} (E : E_X7_colour Γ Q) : jSA Γ Q 0 (o_iload 1) 1 := so_iload_n E.2.2.1 rfl dX7_colour_0
theorem oo_X7_colour_1 {Γ : jΓ} {Q : jPost} (E : E_X7_colour Γ Q) : jSA Γ Q 1 (o_iload 2) 1 := so_iload_n E.2.2.1 rfl dX7_colour_1
theorem oo_X7_colour_2 {Γ : jΓ} {Q : jPost} (E : E_X7_colour Γ Q) : jSA Γ Q 2 (o_call 2 T_X7_isCell) 3 := so_callS E.2.2.1 gX7_colour_X7_isCell (by decide +kernel) rfl (by rw [E.2.1]; exact m_X7_isCell _) (by decide) (by decide) dX7_colour_2
theorem oo_X7_colour_5 {Γ : jΓ} {Q : jPost} (E : E_X7_colour Γ Q) : jSA Γ Q 5 (o_ifeq 21) 3 := so_ifeq E.2.2.1 (by decide) dX7_colour_5
theorem oo_X7_colour_8 {Γ : jΓ} {Q : jPost} (E : E_X7_colour Γ Q) : jSA Γ Q 8 (o_aload 0) 1 := so_aload_n E.2.2.1 rfl dX7_colour_8
theorem oo_X7_colour_9 {Γ : jΓ} {Q : jPost} (E : E_X7_colour Γ Q) : jSA Γ Q 9 (o_getf 7 2) 3 := so_getf (ci := 7) E.2.2.1 wi_X7_colour_X7 (by rw [E.2.1]; rfl) 2 (by decide) wl_X7_colour_14 dX7_colour_9
theorem oo_X7_colour_12 {Γ : jΓ} {Q : jPost} (E : E_X7_colour Γ Q) : jSA Γ Q 12 (o_iload 1) 1 := so_iload_n E.2.2.1 rfl dX7_colour_12
theorem oo_X7_colour_13 {Γ : jΓ} {Q : jPost} (E : E_X7_colour Γ Q) : jSA Γ Q 13 (o_iload 2) 1 := so_iload_n E.2.2.1 rfl dX7_colour_13
theorem oo_X7_colour_14 {Γ : jΓ} {Q : jPost} (E : E_X7_colour Γ Q) : jSA Γ Q 14 (o_call 2 T_X7_cell) 3 := so_callS E.2.2.1 gX7_colour_X7_cell (by decide +kernel) rfl (by rw [E.2.1]; exact m_X7_cell _) (by decide) (by decide) dX7_colour_14
theorem oo_X7_colour_17 {Γ : jΓ} {Q : jPost} (E : E_X7_colour Γ Q) : jSA Γ Q 17 (o_iald) 1 := so_iald E.2.2.1 dX7_colour_17
theorem oo_X7_colour_18 {Γ : jΓ} {Q : jPost} (E : E_X7_colour Γ Q) : jSA Γ Q 18 (o_goto 22) 3 := so_goto E.2.2.1 (by decide) dX7_colour_18
theorem oo_X7_colour_21 {Γ : jΓ} {Q : jPost} (E : E_X7_colour Γ Q) : jSA Γ Q 21 (o_ic (-1)) 1 := so_iconst E.2.2.1 rfl dX7_colour_21
theorem oo_X7_colour_22 {Γ : jΓ} {Q : jPost} (E : E_X7_colour Γ Q) : jSA Γ Q 22 (o_ireti) 1 := so_ireti E.2.2.1 E.2.2.2 dX7_colour_22
theorem ok_X7_colour_0 {Γ : jΓ} {Q : jPost} (E : E_X7_colour Γ Q) : jSS Γ Q 0 sg_X7_colour_0 := ⟨oo_X7_colour_0 E, oo_X7_colour_1 E, oo_X7_colour_2 E, oo_X7_colour_5 E, oo_X7_colour_8 E, oo_X7_colour_9 E, oo_X7_colour_12 E, oo_X7_colour_13 E, oo_X7_colour_14 E, oo_X7_colour_17 E, oo_X7_colour_18 E, trivial⟩
theorem ok_X7_colour_21 {Γ : jΓ} {Q : jPost} (E : E_X7_colour Γ Q) : jSS Γ Q 21 sg_X7_colour_21 := ⟨oo_X7_colour_21 E, oo_X7_colour_22 E, trivial⟩
theorem ok_X7_colour_22 {Γ : jΓ} {Q : jPost} (E : E_X7_colour Γ Q) : jSS Γ Q 22 sg_X7_colour_22 := ⟨oo_X7_colour_22 E, trivial⟩
theorem okc_X7_colour {Γ : jΓ} {Q : jPost} (E : E_X7_colour Γ Q) (t : Nat) : jSS Γ Q t (cd_X7_colour t) := by
  unfold cd_X7_colour
  split
  · exact ok_X7_colour_21 E
  · exact ok_X7_colour_22 E
  · trivial
theorem m_X7_colour_of (l : Launch) (hv : ∀ (G : jGt) (Q : jPost) (vs : List Value) (K : List jK) (h : jM), jHd cd_X7_colour G Q sg_X7_colour_0 0 → T_X7_colour vs K h Q → (lg_sl vs).length ≤ 3 ∧ G 0 (jinit vs 3) [] K h 0 0) : jHolds vwCl l yX7_colour wsX7_colour 2 43 0 0 T_X7_colour := by
  refine jMet (cc := cX7_colour) (maxL := 3) (rt := (some .int)) (by decide +kernel) rfl (fun Γ Q vs K h hl hn hcl C hR hT => hv (jG Γ) Q vs K h ?_ hT)
  · exact fun n L st K h ce sl => jwp_ok (okc_X7_colour ⟨hn, hcl, C, hR⟩) n sg_X7_colour_0 0 (ok_X7_colour_0 ⟨hn, hcl, C, hR⟩) L st K h ce sl
set_option maxHeartbeats 4000000 in
set_option maxRecDepth 100000 in
theorem v_X7_colour {G : jGt} {Q : jPost} {K : List jK} {h : jM} {x : Int32} {y : Int32} (hT : jXM K ∧ Q (some (.int (jcb (h 38) (-1) x y))) K h) (H0 : jHd cd_X7_colour G Q sg_X7_colour_0 0) : G 0 [some (.ref 37), some (.int x), some (.int y)] [] K h 0 0 := by
  obtain ⟨hM, hT⟩ := hT
  refine H0 80 _ _ _ _ _ _ ?_
  unfold jcb at hT
  by_cases c1 : onF x y
  · have hp := jpl_in c1
    rw [if_pos c1] at hT
    simp only [sg_X7_colour_0, sg_X7_colour_21, sg_X7_colour_22, cd_X7_colour, jwp, o_ic, o_lc, o_iload, o_lload, o_aload, o_istore, o_lstore, o_astore, o_iinc, o_pop, o_dup, o_dup2, o_iadd, o_isub, o_imul, o_iand, o_ior, o_ishl, o_ladd, o_lmul, o_land, o_lor, o_idiv, o_irem, o_ineg, o_i2l, o_l2i, o_i2b, o_i2s, o_lushr, o_lshr, o_lshl, o_lcmp, o_ifeq, o_ifne, o_iflt, o_ifge, o_ifgt, o_ifle, o_iceq, o_icne, o_iclt, o_icge, o_icgt, o_icle, o_goto, o_tsw, jsw, o_lsw, jlk, o_getf, o_putf, o_putz, o_iald, o_zald, o_iast, o_zast, o_aald, o_alen, o_gets, o_zld, o_zlen, o_cpy, o_call, o_callV, o_ireti, o_iretz, o_lret, o_vret, jg, js, jkp, jkill, jsp, jcs, jfw, jov, Value.category, Option.toList_some, Option.toList_none, List.nil_append, List.cons_append, List.append_nil, Nat.reduceAdd, true_and, and_true, jb0, jb01, jb1, jem, true_or, or_true, Classical.not_not, forall_const, List.length_cons, List.length_nil, Nat.reduceLeDiff, Nat.zero_le, Nat.reduceLT, and_self, not_true_eq_false, not_false_eq_true, false_imp_iff, true_imp_iff, implies_true, and_false, false_and, or_false, false_or, hM, km_37_0 hM, km_37_1 hM, km_37_2 hM, km_37_3 hM, km_37_4 hM, km_37_5 hM, km_37_6 hM, km_37_7 hM, km_37_8 hM, km_37_9 hM, km_37_10 hM, km_37_11 hM, km_37_12 hM, km_37_13 hM, km_37_14 hM, km_37_15 hM, km_37_16 hM, km_37_17 hM, km_37_18 hM, km_37_19 hM, km_37_20 hM, km_37_21 hM, km_37_22 hM, km_37_23 hM, km_37_24 hM, km_37_25 hM, km_37_26 hM, km_37_27 hM, km_37_28 hM, km_37_29 hM, km_37_30 hM, km_37_31 hM, km_37_32 hM, kmo_37 hM, kma_38 hM, kma_39 hM, kma_40 hM, kma_41 hM, kma_42 hM, kma_43 hM, kma_44 hM, kma_45 hM, kma_46 hM, kma_47 hM, kma_48 hM, kma_49 hM, kma_50 hM, kma_52 hM, kma_53 hM, kma_54 hM, kma_55 hM, kma_56 hM, kma_51 hM, T_X7_isCell, T_X7_cell, hp, c1]
    exact hT
  · rw [if_neg c1] at hT
    simp only [sg_X7_colour_0, sg_X7_colour_21, sg_X7_colour_22, cd_X7_colour, jwp, o_ic, o_lc, o_iload, o_lload, o_aload, o_istore, o_lstore, o_astore, o_iinc, o_pop, o_dup, o_dup2, o_iadd, o_isub, o_imul, o_iand, o_ior, o_ishl, o_ladd, o_lmul, o_land, o_lor, o_idiv, o_irem, o_ineg, o_i2l, o_l2i, o_i2b, o_i2s, o_lushr, o_lshr, o_lshl, o_lcmp, o_ifeq, o_ifne, o_iflt, o_ifge, o_ifgt, o_ifle, o_iceq, o_icne, o_iclt, o_icge, o_icgt, o_icle, o_goto, o_tsw, jsw, o_lsw, jlk, o_getf, o_putf, o_putz, o_iald, o_zald, o_iast, o_zast, o_aald, o_alen, o_gets, o_zld, o_zlen, o_cpy, o_call, o_callV, o_ireti, o_iretz, o_lret, o_vret, jg, js, jkp, jkill, jsp, jcs, jfw, jov, Value.category, Option.toList_some, Option.toList_none, List.nil_append, List.cons_append, List.append_nil, Nat.reduceAdd, true_and, and_true, jb0, jb01, jb1, jem, true_or, or_true, Classical.not_not, forall_const, List.length_cons, List.length_nil, Nat.reduceLeDiff, Nat.zero_le, Nat.reduceLT, and_self, not_true_eq_false, not_false_eq_true, false_imp_iff, true_imp_iff, implies_true, and_false, false_and, or_false, false_or, hM, km_37_0 hM, km_37_1 hM, km_37_2 hM, km_37_3 hM, km_37_4 hM, km_37_5 hM, km_37_6 hM, km_37_7 hM, km_37_8 hM, km_37_9 hM, km_37_10 hM, km_37_11 hM, km_37_12 hM, km_37_13 hM, km_37_14 hM, km_37_15 hM, km_37_16 hM, km_37_17 hM, km_37_18 hM, km_37_19 hM, km_37_20 hM, km_37_21 hM, km_37_22 hM, km_37_23 hM, km_37_24 hM, km_37_25 hM, km_37_26 hM, km_37_27 hM, km_37_28 hM, km_37_29 hM, km_37_30 hM, km_37_31 hM, km_37_32 hM, kmo_37 hM, kma_38 hM, kma_39 hM, kma_40 hM, kma_41 hM, kma_42 hM, kma_43 hM, kma_44 hM, kma_45 hM, kma_46 hM, kma_47 hM, kma_48 hM, kma_49 hM, kma_50 hM, kma_52 hM, kma_53 hM, kma_54 hM, kma_55 hM, kma_56 hM, kma_51 hM, T_X7_isCell, T_X7_cell, c1]
    exact hT
theorem m_X7_colour (l : Launch) : jHolds vwCl l yX7_colour wsX7_colour 2 43 0 0 T_X7_colour := by
  refine m_X7_colour_of l (fun G Q vs K h H0 hT => ?_)
  unfold T_X7_colour at hT
  split at hT
  · obtain ⟨rfl, hT⟩ := hT
    exact ⟨Nat.le_of_ble_eq_true rfl, v_X7_colour hT H0⟩
  · exact hT.elim

/-! X7_visits -/
def T_X7_visits : jT := fun vs K h Q => match vs with
  | [.ref r0, .int x, .int y] => r0 = 37 ∧ (jXM K ∧ Q (some (.int (jcb (h 39) (-10000001) x y))) K h)
  | _ => False
def sg_X7_visits_0 : jS := [(o_iload 1, 1), (o_iload 2, 1), (o_call 2 T_X7_isCell, 3), (o_ifeq 21, 3), (o_aload 0, 1), (o_getf 7 3, 3), (o_iload 1, 1), (o_iload 2, 1), (o_call 2 T_X7_cell, 3), (o_iald, 1), (o_goto 23, 3)]
def sg_X7_visits_21 : jS := [(o_ic (-10000001), 2), (o_ireti, 1)]
def sg_X7_visits_23 : jS := [(o_ireti, 1)]
def cd_X7_visits : Nat → jS := fun t => match t with
  | 21 => sg_X7_visits_21
  | 23 => sg_X7_visits_23
  | _ => []
theorem wl_X7_visits_18 : Cond.fieldLink RX7 18 (TX7 3).1 (TX7 3).2.1 (TX7 3).2.2.1 ∈ wsX7_visits := by decide +kernel
theorem wi_X7_visits_X7 : ∀ w ∈ u_ws RX7 TX7 33, w ∈ wsX7_visits := by decide +kernel
def E_X7_visits (Γ : jΓ) (Q : jPost) : Prop := Γ.2.2.2.2.2.2.2.2.2.2.1 = 3 ∧ Γ.2.2.2.2.2.2.2.2.2.2.2.1 = vwCl ∧ jC Γ cX7_visits RX7 "visits" (some .int) wsX7_visits 2 43 0 0 ∧ jR Γ Q 0 0
theorem oo_X7_visits_0 {Γ : jΓ} {Q : jPost} (E : E_X7_visits Γ Q) : jSA Γ Q 0 (o_iload 1) 1 := so_iload_n E.2.2.1 rfl dX7_visits_0
theorem oo_X7_visits_1 {Γ : jΓ} {Q : jPost} (E : E_X7_visits Γ Q) : jSA Γ Q 1 (o_iload 2) 1 := so_iload_n E.2.2.1 rfl dX7_visits_1
theorem oo_X7_visits_2 {Γ : jΓ} {Q : jPost} (E : E_X7_visits Γ Q) : jSA Γ Q 2 (o_call 2 T_X7_isCell) 3 := so_callS E.2.2.1 gX7_visits_X7_isCell (by decide +kernel) rfl (by rw [E.2.1]; exact m_X7_isCell _) (by decide) (by decide) dX7_visits_2
theorem oo_X7_visits_5 {Γ : jΓ} {Q : jPost} (E : E_X7_visits Γ Q) : jSA Γ Q 5 (o_ifeq 21) 3 := so_ifeq E.2.2.1 (by decide) dX7_visits_5
theorem oo_X7_visits_8 {Γ : jΓ} {Q : jPost} (E : E_X7_visits Γ Q) : jSA Γ Q 8 (o_aload 0) 1 := so_aload_n E.2.2.1 rfl dX7_visits_8
theorem oo_X7_visits_9 {Γ : jΓ} {Q : jPost} (E : E_X7_visits Γ Q) : jSA Γ Q 9 (o_getf 7 3) 3 := so_getf (ci := 7) E.2.2.1 wi_X7_visits_X7 (by rw [E.2.1]; rfl) 3 (by decide) wl_X7_visits_18 dX7_visits_9
theorem oo_X7_visits_12 {Γ : jΓ} {Q : jPost} (E : E_X7_visits Γ Q) : jSA Γ Q 12 (o_iload 1) 1 := so_iload_n E.2.2.1 rfl dX7_visits_12
theorem oo_X7_visits_13 {Γ : jΓ} {Q : jPost} (E : E_X7_visits Γ Q) : jSA Γ Q 13 (o_iload 2) 1 := so_iload_n E.2.2.1 rfl dX7_visits_13
theorem oo_X7_visits_14 {Γ : jΓ} {Q : jPost} (E : E_X7_visits Γ Q) : jSA Γ Q 14 (o_call 2 T_X7_cell) 3 := so_callS E.2.2.1 gX7_visits_X7_cell (by decide +kernel) rfl (by rw [E.2.1]; exact m_X7_cell _) (by decide) (by decide) dX7_visits_14
theorem oo_X7_visits_17 {Γ : jΓ} {Q : jPost} (E : E_X7_visits Γ Q) : jSA Γ Q 17 (o_iald) 1 := so_iald E.2.2.1 dX7_visits_17
theorem oo_X7_visits_18 {Γ : jΓ} {Q : jPost} (E : E_X7_visits Γ Q) : jSA Γ Q 18 (o_goto 23) 3 := so_goto E.2.2.1 (by decide) dX7_visits_18
theorem oo_X7_visits_21 {Γ : jΓ} {Q : jPost} (E : E_X7_visits Γ Q) : jSA Γ Q 21 (o_ic (-10000001)) 2 := so_ldc E.2.2.1 (by decide +kernel) dX7_visits_21
theorem oo_X7_visits_23 {Γ : jΓ} {Q : jPost} (E : E_X7_visits Γ Q) : jSA Γ Q 23 (o_ireti) 1 := so_ireti E.2.2.1 E.2.2.2 dX7_visits_23
theorem ok_X7_visits_0 {Γ : jΓ} {Q : jPost} (E : E_X7_visits Γ Q) : jSS Γ Q 0 sg_X7_visits_0 := ⟨oo_X7_visits_0 E, oo_X7_visits_1 E, oo_X7_visits_2 E, oo_X7_visits_5 E, oo_X7_visits_8 E, oo_X7_visits_9 E, oo_X7_visits_12 E, oo_X7_visits_13 E, oo_X7_visits_14 E, oo_X7_visits_17 E, oo_X7_visits_18 E, trivial⟩
theorem ok_X7_visits_21 {Γ : jΓ} {Q : jPost} (E : E_X7_visits Γ Q) : jSS Γ Q 21 sg_X7_visits_21 := ⟨oo_X7_visits_21 E, oo_X7_visits_23 E, trivial⟩
theorem ok_X7_visits_23 {Γ : jΓ} {Q : jPost} (E : E_X7_visits Γ Q) : jSS Γ Q 23 sg_X7_visits_23 := ⟨oo_X7_visits_23 E, trivial⟩
theorem okc_X7_visits {Γ : jΓ} {Q : jPost} (E : E_X7_visits Γ Q) (t : Nat) : jSS Γ Q t (cd_X7_visits t) := by
  unfold cd_X7_visits
  split
  · exact ok_X7_visits_21 E
  · exact ok_X7_visits_23 E
  · trivial
theorem m_X7_visits_of (l : Launch) (hv : ∀ (G : jGt) (Q : jPost) (vs : List Value) (K : List jK) (h : jM), jHd cd_X7_visits G Q sg_X7_visits_0 0 → T_X7_visits vs K h Q → (lg_sl vs).length ≤ 3 ∧ G 0 (jinit vs 3) [] K h 0 0) : jHolds vwCl l yX7_visits wsX7_visits 2 43 0 0 T_X7_visits := by
  refine jMet (cc := cX7_visits) (maxL := 3) (rt := (some .int)) (by decide +kernel) rfl (fun Γ Q vs K h hl hn hcl C hR hT => hv (jG Γ) Q vs K h ?_ hT)
  · exact fun n L st K h ce sl => jwp_ok (okc_X7_visits ⟨hn, hcl, C, hR⟩) n sg_X7_visits_0 0 (ok_X7_visits_0 ⟨hn, hcl, C, hR⟩) L st K h ce sl
set_option maxHeartbeats 4000000 in
set_option maxRecDepth 100000 in
theorem v_X7_visits {G : jGt} {Q : jPost} {K : List jK} {h : jM} {x : Int32} {y : Int32} (hT : jXM K ∧ Q (some (.int (jcb (h 39) (-10000001) x y))) K h) (H0 : jHd cd_X7_visits G Q sg_X7_visits_0 0) : G 0 [some (.ref 37), some (.int x), some (.int y)] [] K h 0 0 := by
  obtain ⟨hM, hT⟩ := hT
  refine H0 80 _ _ _ _ _ _ ?_
  unfold jcb at hT
  by_cases c1 : onF x y
  · have hp := jpl_in c1
    rw [if_pos c1] at hT
    simp only [sg_X7_visits_0, sg_X7_visits_21, sg_X7_visits_23, cd_X7_visits, jwp, o_ic, o_lc, o_iload, o_lload, o_aload, o_istore, o_lstore, o_astore, o_iinc, o_pop, o_dup, o_dup2, o_iadd, o_isub, o_imul, o_iand, o_ior, o_ishl, o_ladd, o_lmul, o_land, o_lor, o_idiv, o_irem, o_ineg, o_i2l, o_l2i, o_i2b, o_i2s, o_lushr, o_lshr, o_lshl, o_lcmp, o_ifeq, o_ifne, o_iflt, o_ifge, o_ifgt, o_ifle, o_iceq, o_icne, o_iclt, o_icge, o_icgt, o_icle, o_goto, o_tsw, jsw, o_lsw, jlk, o_getf, o_putf, o_putz, o_iald, o_zald, o_iast, o_zast, o_aald, o_alen, o_gets, o_zld, o_zlen, o_cpy, o_call, o_callV, o_ireti, o_iretz, o_lret, o_vret, jg, js, jkp, jkill, jsp, jcs, jfw, jov, Value.category, Option.toList_some, Option.toList_none, List.nil_append, List.cons_append, List.append_nil, Nat.reduceAdd, true_and, and_true, jb0, jb01, jb1, jem, true_or, or_true, Classical.not_not, forall_const, List.length_cons, List.length_nil, Nat.reduceLeDiff, Nat.zero_le, Nat.reduceLT, and_self, not_true_eq_false, not_false_eq_true, false_imp_iff, true_imp_iff, implies_true, and_false, false_and, or_false, false_or, hM, km_37_0 hM, km_37_1 hM, km_37_2 hM, km_37_3 hM, km_37_4 hM, km_37_5 hM, km_37_6 hM, km_37_7 hM, km_37_8 hM, km_37_9 hM, km_37_10 hM, km_37_11 hM, km_37_12 hM, km_37_13 hM, km_37_14 hM, km_37_15 hM, km_37_16 hM, km_37_17 hM, km_37_18 hM, km_37_19 hM, km_37_20 hM, km_37_21 hM, km_37_22 hM, km_37_23 hM, km_37_24 hM, km_37_25 hM, km_37_26 hM, km_37_27 hM, km_37_28 hM, km_37_29 hM, km_37_30 hM, km_37_31 hM, km_37_32 hM, kmo_37 hM, kma_38 hM, kma_39 hM, kma_40 hM, kma_41 hM, kma_42 hM, kma_43 hM, kma_44 hM, kma_45 hM, kma_46 hM, kma_47 hM, kma_48 hM, kma_49 hM, kma_50 hM, kma_52 hM, kma_53 hM, kma_54 hM, kma_55 hM, kma_56 hM, kma_51 hM, T_X7_isCell, T_X7_cell, hp, c1]
    exact hT
  · rw [if_neg c1] at hT
    simp only [sg_X7_visits_0, sg_X7_visits_21, sg_X7_visits_23, cd_X7_visits, jwp, o_ic, o_lc, o_iload, o_lload, o_aload, o_istore, o_lstore, o_astore, o_iinc, o_pop, o_dup, o_dup2, o_iadd, o_isub, o_imul, o_iand, o_ior, o_ishl, o_ladd, o_lmul, o_land, o_lor, o_idiv, o_irem, o_ineg, o_i2l, o_l2i, o_i2b, o_i2s, o_lushr, o_lshr, o_lshl, o_lcmp, o_ifeq, o_ifne, o_iflt, o_ifge, o_ifgt, o_ifle, o_iceq, o_icne, o_iclt, o_icge, o_icgt, o_icle, o_goto, o_tsw, jsw, o_lsw, jlk, o_getf, o_putf, o_putz, o_iald, o_zald, o_iast, o_zast, o_aald, o_alen, o_gets, o_zld, o_zlen, o_cpy, o_call, o_callV, o_ireti, o_iretz, o_lret, o_vret, jg, js, jkp, jkill, jsp, jcs, jfw, jov, Value.category, Option.toList_some, Option.toList_none, List.nil_append, List.cons_append, List.append_nil, Nat.reduceAdd, true_and, and_true, jb0, jb01, jb1, jem, true_or, or_true, Classical.not_not, forall_const, List.length_cons, List.length_nil, Nat.reduceLeDiff, Nat.zero_le, Nat.reduceLT, and_self, not_true_eq_false, not_false_eq_true, false_imp_iff, true_imp_iff, implies_true, and_false, false_and, or_false, false_or, hM, km_37_0 hM, km_37_1 hM, km_37_2 hM, km_37_3 hM, km_37_4 hM, km_37_5 hM, km_37_6 hM, km_37_7 hM, km_37_8 hM, km_37_9 hM, km_37_10 hM, km_37_11 hM, km_37_12 hM, km_37_13 hM, km_37_14 hM, km_37_15 hM, km_37_16 hM, km_37_17 hM, km_37_18 hM, km_37_19 hM, km_37_20 hM, km_37_21 hM, km_37_22 hM, km_37_23 hM, km_37_24 hM, km_37_25 hM, km_37_26 hM, km_37_27 hM, km_37_28 hM, km_37_29 hM, km_37_30 hM, km_37_31 hM, km_37_32 hM, kmo_37 hM, kma_38 hM, kma_39 hM, kma_40 hM, kma_41 hM, kma_42 hM, kma_43 hM, kma_44 hM, kma_45 hM, kma_46 hM, kma_47 hM, kma_48 hM, kma_49 hM, kma_50 hM, kma_52 hM, kma_53 hM, kma_54 hM, kma_55 hM, kma_56 hM, kma_51 hM, T_X7_isCell, T_X7_cell, c1]
    exact hT
theorem m_X7_visits (l : Launch) : jHolds vwCl l yX7_visits wsX7_visits 2 43 0 0 T_X7_visits := by
  refine m_X7_visits_of l (fun G Q vs K h H0 hT => ?_)
  unfold T_X7_visits at hT
  split at hT
  · obtain ⟨rfl, hT⟩ := hT
    exact ⟨Nat.le_of_ble_eq_true rfl, v_X7_visits hT H0⟩
  · exact hT.elim

/-! X7_colourAt -/
def T_X7_colourAt : jT := fun vs K h Q => match vs with
  | [.ref r0, .int x, .int y] => r0 = 37 ∧ (jXM K ∧ Q (some (.int (jcb (h 38) (0) x y))) K h)
  | _ => False
def sg_X7_colourAt_0 : jS := [(o_iload 1, 1), (o_iload 2, 1), (o_call 2 T_X7_isCell, 3), (o_ifeq 21, 3), (o_aload 0, 1), (o_getf 7 2, 3), (o_iload 1, 1), (o_iload 2, 1), (o_call 2 T_X7_cell, 3), (o_iald, 1), (o_goto 22, 3)]
def sg_X7_colourAt_21 : jS := [(o_ic (0), 1), (o_ireti, 1)]
def sg_X7_colourAt_22 : jS := [(o_ireti, 1)]
def cd_X7_colourAt : Nat → jS := fun t => match t with
  | 21 => sg_X7_colourAt_21
  | 22 => sg_X7_colourAt_22
  | _ => []
theorem wl_X7_colourAt_14 : Cond.fieldLink RX7 14 (TX7 2).1 (TX7 2).2.1 (TX7 2).2.2.1 ∈ wsX7_colourAt := by decide +kernel
theorem wi_X7_colourAt_X7 : ∀ w ∈ u_ws RX7 TX7 33, w ∈ wsX7_colourAt := by decide +kernel
def E_X7_colourAt (Γ : jΓ) (Q : jPost) : Prop := Γ.2.2.2.2.2.2.2.2.2.2.1 = 3 ∧ Γ.2.2.2.2.2.2.2.2.2.2.2.1 = vwCl ∧ jC Γ cX7_colourAt RX7 "colourAt" (some .int) wsX7_colourAt 2 43 0 0 ∧ jR Γ Q 0 0
theorem oo_X7_colourAt_0 {Γ : jΓ} {Q : jPost} (E : E_X7_colourAt Γ Q) : jSA Γ Q 0 (o_iload 1) 1 := so_iload_n E.2.2.1 rfl dX7_colourAt_0
theorem oo_X7_colourAt_1 {Γ : jΓ} {Q : jPost} (E : E_X7_colourAt Γ Q) : jSA Γ Q 1 (o_iload 2) 1 := so_iload_n E.2.2.1 rfl dX7_colourAt_1
theorem oo_X7_colourAt_2 {Γ : jΓ} {Q : jPost} (E : E_X7_colourAt Γ Q) : jSA Γ Q 2 (o_call 2 T_X7_isCell) 3 := so_callS E.2.2.1 gX7_colourAt_X7_isCell (by decide +kernel) rfl (by rw [E.2.1]; exact m_X7_isCell _) (by decide) (by decide) dX7_colourAt_2
theorem oo_X7_colourAt_5 {Γ : jΓ} {Q : jPost} (E : E_X7_colourAt Γ Q) : jSA Γ Q 5 (o_ifeq 21) 3 := so_ifeq E.2.2.1 (by decide) dX7_colourAt_5
theorem oo_X7_colourAt_8 {Γ : jΓ} {Q : jPost} (E : E_X7_colourAt Γ Q) : jSA Γ Q 8 (o_aload 0) 1 := so_aload_n E.2.2.1 rfl dX7_colourAt_8
theorem oo_X7_colourAt_9 {Γ : jΓ} {Q : jPost} (E : E_X7_colourAt Γ Q) : jSA Γ Q 9 (o_getf 7 2) 3 := so_getf (ci := 7) E.2.2.1 wi_X7_colourAt_X7 (by rw [E.2.1]; rfl) 2 (by decide) wl_X7_colourAt_14 dX7_colourAt_9
theorem oo_X7_colourAt_12 {Γ : jΓ} {Q : jPost} (E : E_X7_colourAt Γ Q) : jSA Γ Q 12 (o_iload 1) 1 := so_iload_n E.2.2.1 rfl dX7_colourAt_12
theorem oo_X7_colourAt_13 {Γ : jΓ} {Q : jPost} (E : E_X7_colourAt Γ Q) : jSA Γ Q 13 (o_iload 2) 1 := so_iload_n E.2.2.1 rfl dX7_colourAt_13
theorem oo_X7_colourAt_14 {Γ : jΓ} {Q : jPost} (E : E_X7_colourAt Γ Q) : jSA Γ Q 14 (o_call 2 T_X7_cell) 3 := so_callS E.2.2.1 gX7_colourAt_X7_cell (by decide +kernel) rfl (by rw [E.2.1]; exact m_X7_cell _) (by decide) (by decide) dX7_colourAt_14
theorem oo_X7_colourAt_17 {Γ : jΓ} {Q : jPost} (E : E_X7_colourAt Γ Q) : jSA Γ Q 17 (o_iald) 1 := so_iald E.2.2.1 dX7_colourAt_17
theorem oo_X7_colourAt_18 {Γ : jΓ} {Q : jPost} (E : E_X7_colourAt Γ Q) : jSA Γ Q 18 (o_goto 22) 3 := so_goto E.2.2.1 (by decide) dX7_colourAt_18
theorem oo_X7_colourAt_21 {Γ : jΓ} {Q : jPost} (E : E_X7_colourAt Γ Q) : jSA Γ Q 21 (o_ic (0)) 1 := so_iconst E.2.2.1 rfl dX7_colourAt_21
theorem oo_X7_colourAt_22 {Γ : jΓ} {Q : jPost} (E : E_X7_colourAt Γ Q) : jSA Γ Q 22 (o_ireti) 1 := so_ireti E.2.2.1 E.2.2.2 dX7_colourAt_22
theorem ok_X7_colourAt_0 {Γ : jΓ} {Q : jPost} (E : E_X7_colourAt Γ Q) : jSS Γ Q 0 sg_X7_colourAt_0 := ⟨oo_X7_colourAt_0 E, oo_X7_colourAt_1 E, oo_X7_colourAt_2 E, oo_X7_colourAt_5 E, oo_X7_colourAt_8 E, oo_X7_colourAt_9 E, oo_X7_colourAt_12 E, oo_X7_colourAt_13 E, oo_X7_colourAt_14 E, oo_X7_colourAt_17 E, oo_X7_colourAt_18 E, trivial⟩
theorem ok_X7_colourAt_21 {Γ : jΓ} {Q : jPost} (E : E_X7_colourAt Γ Q) : jSS Γ Q 21 sg_X7_colourAt_21 := ⟨oo_X7_colourAt_21 E, oo_X7_colourAt_22 E, trivial⟩
theorem ok_X7_colourAt_22 {Γ : jΓ} {Q : jPost} (E : E_X7_colourAt Γ Q) : jSS Γ Q 22 sg_X7_colourAt_22 := ⟨oo_X7_colourAt_22 E, trivial⟩
theorem okc_X7_colourAt {Γ : jΓ} {Q : jPost} (E : E_X7_colourAt Γ Q) (t : Nat) : jSS Γ Q t (cd_X7_colourAt t) := by
  unfold cd_X7_colourAt
  split
  · exact ok_X7_colourAt_21 E
  · exact ok_X7_colourAt_22 E
  · trivial
theorem m_X7_colourAt_of (l : Launch) (hv : ∀ (G : jGt) (Q : jPost) (vs : List Value) (K : List jK) (h : jM), jHd cd_X7_colourAt G Q sg_X7_colourAt_0 0 → T_X7_colourAt vs K h Q → (lg_sl vs).length ≤ 3 ∧ G 0 (jinit vs 3) [] K h 0 0) : jHolds vwCl l yX7_colourAt wsX7_colourAt 2 43 0 0 T_X7_colourAt := by
  refine jMet (cc := cX7_colourAt) (maxL := 3) (rt := (some .int)) (by decide +kernel) rfl (fun Γ Q vs K h hl hn hcl C hR hT => hv (jG Γ) Q vs K h ?_ hT)
  · exact fun n L st K h ce sl => jwp_ok (okc_X7_colourAt ⟨hn, hcl, C, hR⟩) n sg_X7_colourAt_0 0 (ok_X7_colourAt_0 ⟨hn, hcl, C, hR⟩) L st K h ce sl
set_option maxHeartbeats 4000000 in
set_option maxRecDepth 100000 in
theorem v_X7_colourAt {G : jGt} {Q : jPost} {K : List jK} {h : jM} {x : Int32} {y : Int32} (hT : jXM K ∧ Q (some (.int (jcb (h 38) (0) x y))) K h) (H0 : jHd cd_X7_colourAt G Q sg_X7_colourAt_0 0) : G 0 [some (.ref 37), some (.int x), some (.int y)] [] K h 0 0 := by
  obtain ⟨hM, hT⟩ := hT
  refine H0 80 _ _ _ _ _ _ ?_
  unfold jcb at hT
  by_cases c1 : onF x y
  · have hp := jpl_in c1
    rw [if_pos c1] at hT
    simp only [sg_X7_colourAt_0, sg_X7_colourAt_21, sg_X7_colourAt_22, cd_X7_colourAt, jwp, o_ic, o_lc, o_iload, o_lload, o_aload, o_istore, o_lstore, o_astore, o_iinc, o_pop, o_dup, o_dup2, o_iadd, o_isub, o_imul, o_iand, o_ior, o_ishl, o_ladd, o_lmul, o_land, o_lor, o_idiv, o_irem, o_ineg, o_i2l, o_l2i, o_i2b, o_i2s, o_lushr, o_lshr, o_lshl, o_lcmp, o_ifeq, o_ifne, o_iflt, o_ifge, o_ifgt, o_ifle, o_iceq, o_icne, o_iclt, o_icge, o_icgt, o_icle, o_goto, o_tsw, jsw, o_lsw, jlk, o_getf, o_putf, o_putz, o_iald, o_zald, o_iast, o_zast, o_aald, o_alen, o_gets, o_zld, o_zlen, o_cpy, o_call, o_callV, o_ireti, o_iretz, o_lret, o_vret, jg, js, jkp, jkill, jsp, jcs, jfw, jov, Value.category, Option.toList_some, Option.toList_none, List.nil_append, List.cons_append, List.append_nil, Nat.reduceAdd, true_and, and_true, jb0, jb01, jb1, jem, true_or, or_true, Classical.not_not, forall_const, List.length_cons, List.length_nil, Nat.reduceLeDiff, Nat.zero_le, Nat.reduceLT, and_self, not_true_eq_false, not_false_eq_true, false_imp_iff, true_imp_iff, implies_true, and_false, false_and, or_false, false_or, hM, km_37_0 hM, km_37_1 hM, km_37_2 hM, km_37_3 hM, km_37_4 hM, km_37_5 hM, km_37_6 hM, km_37_7 hM, km_37_8 hM, km_37_9 hM, km_37_10 hM, km_37_11 hM, km_37_12 hM, km_37_13 hM, km_37_14 hM, km_37_15 hM, km_37_16 hM, km_37_17 hM, km_37_18 hM, km_37_19 hM, km_37_20 hM, km_37_21 hM, km_37_22 hM, km_37_23 hM, km_37_24 hM, km_37_25 hM, km_37_26 hM, km_37_27 hM, km_37_28 hM, km_37_29 hM, km_37_30 hM, km_37_31 hM, km_37_32 hM, kmo_37 hM, kma_38 hM, kma_39 hM, kma_40 hM, kma_41 hM, kma_42 hM, kma_43 hM, kma_44 hM, kma_45 hM, kma_46 hM, kma_47 hM, kma_48 hM, kma_49 hM, kma_50 hM, kma_52 hM, kma_53 hM, kma_54 hM, kma_55 hM, kma_56 hM, kma_51 hM, T_X7_isCell, T_X7_cell, hp, c1]
    exact hT
  · rw [if_neg c1] at hT
    simp only [sg_X7_colourAt_0, sg_X7_colourAt_21, sg_X7_colourAt_22, cd_X7_colourAt, jwp, o_ic, o_lc, o_iload, o_lload, o_aload, o_istore, o_lstore, o_astore, o_iinc, o_pop, o_dup, o_dup2, o_iadd, o_isub, o_imul, o_iand, o_ior, o_ishl, o_ladd, o_lmul, o_land, o_lor, o_idiv, o_irem, o_ineg, o_i2l, o_l2i, o_i2b, o_i2s, o_lushr, o_lshr, o_lshl, o_lcmp, o_ifeq, o_ifne, o_iflt, o_ifge, o_ifgt, o_ifle, o_iceq, o_icne, o_iclt, o_icge, o_icgt, o_icle, o_goto, o_tsw, jsw, o_lsw, jlk, o_getf, o_putf, o_putz, o_iald, o_zald, o_iast, o_zast, o_aald, o_alen, o_gets, o_zld, o_zlen, o_cpy, o_call, o_callV, o_ireti, o_iretz, o_lret, o_vret, jg, js, jkp, jkill, jsp, jcs, jfw, jov, Value.category, Option.toList_some, Option.toList_none, List.nil_append, List.cons_append, List.append_nil, Nat.reduceAdd, true_and, and_true, jb0, jb01, jb1, jem, true_or, or_true, Classical.not_not, forall_const, List.length_cons, List.length_nil, Nat.reduceLeDiff, Nat.zero_le, Nat.reduceLT, and_self, not_true_eq_false, not_false_eq_true, false_imp_iff, true_imp_iff, implies_true, and_false, false_and, or_false, false_or, hM, km_37_0 hM, km_37_1 hM, km_37_2 hM, km_37_3 hM, km_37_4 hM, km_37_5 hM, km_37_6 hM, km_37_7 hM, km_37_8 hM, km_37_9 hM, km_37_10 hM, km_37_11 hM, km_37_12 hM, km_37_13 hM, km_37_14 hM, km_37_15 hM, km_37_16 hM, km_37_17 hM, km_37_18 hM, km_37_19 hM, km_37_20 hM, km_37_21 hM, km_37_22 hM, km_37_23 hM, km_37_24 hM, km_37_25 hM, km_37_26 hM, km_37_27 hM, km_37_28 hM, km_37_29 hM, km_37_30 hM, km_37_31 hM, km_37_32 hM, kmo_37 hM, kma_38 hM, kma_39 hM, kma_40 hM, kma_41 hM, kma_42 hM, kma_43 hM, kma_44 hM, kma_45 hM, kma_46 hM, kma_47 hM, kma_48 hM, kma_49 hM, kma_50 hM, kma_52 hM, kma_53 hM, kma_54 hM, kma_55 hM, kma_56 hM, kma_51 hM, T_X7_isCell, T_X7_cell, c1]
    exact hT
theorem m_X7_colourAt (l : Launch) : jHolds vwCl l yX7_colourAt wsX7_colourAt 2 43 0 0 T_X7_colourAt := by
  refine m_X7_colourAt_of l (fun G Q vs K h H0 hT => ?_)
  unfold T_X7_colourAt at hT
  split at hT
  · obtain ⟨rfl, hT⟩ := hT
    exact ⟨Nat.le_of_ble_eq_true rfl, v_X7_colourAt hT H0⟩
  · exact hT.elim

/-! X7_markedAt -/
def T_X7_markedAt : jT := fun vs K h Q => match vs with
  | [.ref r0, .int x, .int y] => r0 = 37 ∧ (jXM K ∧ Q (some (.int (jcb (h 52) (0) x y))) K h)
  | _ => False
def sg_X7_markedAt_0 : jS := [(o_iload 1, 1), (o_iload 2, 1), (o_call 2 T_X7_isCell, 3), (o_ifeq 21, 3), (o_aload 0, 1), (o_getf 7 23, 3), (o_iload 1, 1), (o_iload 2, 1), (o_call 2 T_X7_cell, 3), (o_iald, 1), (o_goto 22, 3)]
def sg_X7_markedAt_21 : jS := [(o_ic (0), 1), (o_ireti, 1)]
def sg_X7_markedAt_22 : jS := [(o_ireti, 1)]
def cd_X7_markedAt : Nat → jS := fun t => match t with
  | 21 => sg_X7_markedAt_21
  | 22 => sg_X7_markedAt_22
  | _ => []
theorem wl_X7_markedAt_58 : Cond.fieldLink RX7 58 (TX7 23).1 (TX7 23).2.1 (TX7 23).2.2.1 ∈ wsX7_markedAt := by decide +kernel
theorem wi_X7_markedAt_X7 : ∀ w ∈ u_ws RX7 TX7 33, w ∈ wsX7_markedAt := by decide +kernel
def E_X7_markedAt (Γ : jΓ) (Q : jPost) : Prop := Γ.2.2.2.2.2.2.2.2.2.2.1 = 3 ∧ Γ.2.2.2.2.2.2.2.2.2.2.2.1 = vwCl ∧ jC Γ cX7_markedAt RX7 "markedAt" (some .int) wsX7_markedAt 2 43 0 0 ∧ jR Γ Q 0 0
theorem oo_X7_markedAt_0 {Γ : jΓ} {Q : jPost} (E : E_X7_markedAt Γ Q) : jSA Γ Q 0 (o_iload 1) 1 := so_iload_n E.2.2.1 rfl dX7_markedAt_0
theorem oo_X7_markedAt_1 {Γ : jΓ} {Q : jPost} (E : E_X7_markedAt Γ Q) : jSA Γ Q 1 (o_iload 2) 1 := so_iload_n E.2.2.1 rfl dX7_markedAt_1
theorem oo_X7_markedAt_2 {Γ : jΓ} {Q : jPost} (E : E_X7_markedAt Γ Q) : jSA Γ Q 2 (o_call 2 T_X7_isCell) 3 := so_callS E.2.2.1 gX7_markedAt_X7_isCell (by decide +kernel) rfl (by rw [E.2.1]; exact m_X7_isCell _) (by decide) (by decide) dX7_markedAt_2
theorem oo_X7_markedAt_5 {Γ : jΓ} {Q : jPost} (E : E_X7_markedAt Γ Q) : jSA Γ Q 5 (o_ifeq 21) 3 := so_ifeq E.2.2.1 (by decide) dX7_markedAt_5
theorem oo_X7_markedAt_8 {Γ : jΓ} {Q : jPost} (E : E_X7_markedAt Γ Q) : jSA Γ Q 8 (o_aload 0) 1 := so_aload_n E.2.2.1 rfl dX7_markedAt_8
theorem oo_X7_markedAt_9 {Γ : jΓ} {Q : jPost} (E : E_X7_markedAt Γ Q) : jSA Γ Q 9 (o_getf 7 23) 3 := so_getf (ci := 7) E.2.2.1 wi_X7_markedAt_X7 (by rw [E.2.1]; rfl) 23 (by decide) wl_X7_markedAt_58 dX7_markedAt_9
theorem oo_X7_markedAt_12 {Γ : jΓ} {Q : jPost} (E : E_X7_markedAt Γ Q) : jSA Γ Q 12 (o_iload 1) 1 := so_iload_n E.2.2.1 rfl dX7_markedAt_12
theorem oo_X7_markedAt_13 {Γ : jΓ} {Q : jPost} (E : E_X7_markedAt Γ Q) : jSA Γ Q 13 (o_iload 2) 1 := so_iload_n E.2.2.1 rfl dX7_markedAt_13
theorem oo_X7_markedAt_14 {Γ : jΓ} {Q : jPost} (E : E_X7_markedAt Γ Q) : jSA Γ Q 14 (o_call 2 T_X7_cell) 3 := so_callS E.2.2.1 gX7_markedAt_X7_cell (by decide +kernel) rfl (by rw [E.2.1]; exact m_X7_cell _) (by decide) (by decide) dX7_markedAt_14
theorem oo_X7_markedAt_17 {Γ : jΓ} {Q : jPost} (E : E_X7_markedAt Γ Q) : jSA Γ Q 17 (o_iald) 1 := so_iald E.2.2.1 dX7_markedAt_17
theorem oo_X7_markedAt_18 {Γ : jΓ} {Q : jPost} (E : E_X7_markedAt Γ Q) : jSA Γ Q 18 (o_goto 22) 3 := so_goto E.2.2.1 (by decide) dX7_markedAt_18
theorem oo_X7_markedAt_21 {Γ : jΓ} {Q : jPost} (E : E_X7_markedAt Γ Q) : jSA Γ Q 21 (o_ic (0)) 1 := so_iconst E.2.2.1 rfl dX7_markedAt_21
theorem oo_X7_markedAt_22 {Γ : jΓ} {Q : jPost} (E : E_X7_markedAt Γ Q) : jSA Γ Q 22 (o_ireti) 1 := so_ireti E.2.2.1 E.2.2.2 dX7_markedAt_22
theorem ok_X7_markedAt_0 {Γ : jΓ} {Q : jPost} (E : E_X7_markedAt Γ Q) : jSS Γ Q 0 sg_X7_markedAt_0 := ⟨oo_X7_markedAt_0 E, oo_X7_markedAt_1 E, oo_X7_markedAt_2 E, oo_X7_markedAt_5 E, oo_X7_markedAt_8 E, oo_X7_markedAt_9 E, oo_X7_markedAt_12 E, oo_X7_markedAt_13 E, oo_X7_markedAt_14 E, oo_X7_markedAt_17 E, oo_X7_markedAt_18 E, trivial⟩
theorem ok_X7_markedAt_21 {Γ : jΓ} {Q : jPost} (E : E_X7_markedAt Γ Q) : jSS Γ Q 21 sg_X7_markedAt_21 := ⟨oo_X7_markedAt_21 E, oo_X7_markedAt_22 E, trivial⟩
theorem ok_X7_markedAt_22 {Γ : jΓ} {Q : jPost} (E : E_X7_markedAt Γ Q) : jSS Γ Q 22 sg_X7_markedAt_22 := ⟨oo_X7_markedAt_22 E, trivial⟩
theorem okc_X7_markedAt {Γ : jΓ} {Q : jPost} (E : E_X7_markedAt Γ Q) (t : Nat) : jSS Γ Q t (cd_X7_markedAt t) := by
  unfold cd_X7_markedAt
  split
  · exact ok_X7_markedAt_21 E
  · exact ok_X7_markedAt_22 E
  · trivial
theorem m_X7_markedAt_of (l : Launch) (hv : ∀ (G : jGt) (Q : jPost) (vs : List Value) (K : List jK) (h : jM), jHd cd_X7_markedAt G Q sg_X7_markedAt_0 0 → T_X7_markedAt vs K h Q → (lg_sl vs).length ≤ 3 ∧ G 0 (jinit vs 3) [] K h 0 0) : jHolds vwCl l yX7_markedAt wsX7_markedAt 2 43 0 0 T_X7_markedAt := by
  refine jMet (cc := cX7_markedAt) (maxL := 3) (rt := (some .int)) (by decide +kernel) rfl (fun Γ Q vs K h hl hn hcl C hR hT => hv (jG Γ) Q vs K h ?_ hT)
  · exact fun n L st K h ce sl => jwp_ok (okc_X7_markedAt ⟨hn, hcl, C, hR⟩) n sg_X7_markedAt_0 0 (ok_X7_markedAt_0 ⟨hn, hcl, C, hR⟩) L st K h ce sl
set_option maxHeartbeats 4000000 in
set_option maxRecDepth 100000 in
theorem v_X7_markedAt {G : jGt} {Q : jPost} {K : List jK} {h : jM} {x : Int32} {y : Int32} (hT : jXM K ∧ Q (some (.int (jcb (h 52) (0) x y))) K h) (H0 : jHd cd_X7_markedAt G Q sg_X7_markedAt_0 0) : G 0 [some (.ref 37), some (.int x), some (.int y)] [] K h 0 0 := by
  obtain ⟨hM, hT⟩ := hT
  refine H0 80 _ _ _ _ _ _ ?_
  unfold jcb at hT
  by_cases c1 : onF x y
  · have hp := jpl_in c1
    rw [if_pos c1] at hT
    simp only [sg_X7_markedAt_0, sg_X7_markedAt_21, sg_X7_markedAt_22, cd_X7_markedAt, jwp, o_ic, o_lc, o_iload, o_lload, o_aload, o_istore, o_lstore, o_astore, o_iinc, o_pop, o_dup, o_dup2, o_iadd, o_isub, o_imul, o_iand, o_ior, o_ishl, o_ladd, o_lmul, o_land, o_lor, o_idiv, o_irem, o_ineg, o_i2l, o_l2i, o_i2b, o_i2s, o_lushr, o_lshr, o_lshl, o_lcmp, o_ifeq, o_ifne, o_iflt, o_ifge, o_ifgt, o_ifle, o_iceq, o_icne, o_iclt, o_icge, o_icgt, o_icle, o_goto, o_tsw, jsw, o_lsw, jlk, o_getf, o_putf, o_putz, o_iald, o_zald, o_iast, o_zast, o_aald, o_alen, o_gets, o_zld, o_zlen, o_cpy, o_call, o_callV, o_ireti, o_iretz, o_lret, o_vret, jg, js, jkp, jkill, jsp, jcs, jfw, jov, Value.category, Option.toList_some, Option.toList_none, List.nil_append, List.cons_append, List.append_nil, Nat.reduceAdd, true_and, and_true, jb0, jb01, jb1, jem, true_or, or_true, Classical.not_not, forall_const, List.length_cons, List.length_nil, Nat.reduceLeDiff, Nat.zero_le, Nat.reduceLT, and_self, not_true_eq_false, not_false_eq_true, false_imp_iff, true_imp_iff, implies_true, and_false, false_and, or_false, false_or, hM, km_37_0 hM, km_37_1 hM, km_37_2 hM, km_37_3 hM, km_37_4 hM, km_37_5 hM, km_37_6 hM, km_37_7 hM, km_37_8 hM, km_37_9 hM, km_37_10 hM, km_37_11 hM, km_37_12 hM, km_37_13 hM, km_37_14 hM, km_37_15 hM, km_37_16 hM, km_37_17 hM, km_37_18 hM, km_37_19 hM, km_37_20 hM, km_37_21 hM, km_37_22 hM, km_37_23 hM, km_37_24 hM, km_37_25 hM, km_37_26 hM, km_37_27 hM, km_37_28 hM, km_37_29 hM, km_37_30 hM, km_37_31 hM, km_37_32 hM, kmo_37 hM, kma_38 hM, kma_39 hM, kma_40 hM, kma_41 hM, kma_42 hM, kma_43 hM, kma_44 hM, kma_45 hM, kma_46 hM, kma_47 hM, kma_48 hM, kma_49 hM, kma_50 hM, kma_52 hM, kma_53 hM, kma_54 hM, kma_55 hM, kma_56 hM, kma_51 hM, T_X7_isCell, T_X7_cell, hp, c1]
    exact hT
  · rw [if_neg c1] at hT
    simp only [sg_X7_markedAt_0, sg_X7_markedAt_21, sg_X7_markedAt_22, cd_X7_markedAt, jwp, o_ic, o_lc, o_iload, o_lload, o_aload, o_istore, o_lstore, o_astore, o_iinc, o_pop, o_dup, o_dup2, o_iadd, o_isub, o_imul, o_iand, o_ior, o_ishl, o_ladd, o_lmul, o_land, o_lor, o_idiv, o_irem, o_ineg, o_i2l, o_l2i, o_i2b, o_i2s, o_lushr, o_lshr, o_lshl, o_lcmp, o_ifeq, o_ifne, o_iflt, o_ifge, o_ifgt, o_ifle, o_iceq, o_icne, o_iclt, o_icge, o_icgt, o_icle, o_goto, o_tsw, jsw, o_lsw, jlk, o_getf, o_putf, o_putz, o_iald, o_zald, o_iast, o_zast, o_aald, o_alen, o_gets, o_zld, o_zlen, o_cpy, o_call, o_callV, o_ireti, o_iretz, o_lret, o_vret, jg, js, jkp, jkill, jsp, jcs, jfw, jov, Value.category, Option.toList_some, Option.toList_none, List.nil_append, List.cons_append, List.append_nil, Nat.reduceAdd, true_and, and_true, jb0, jb01, jb1, jem, true_or, or_true, Classical.not_not, forall_const, List.length_cons, List.length_nil, Nat.reduceLeDiff, Nat.zero_le, Nat.reduceLT, and_self, not_true_eq_false, not_false_eq_true, false_imp_iff, true_imp_iff, implies_true, and_false, false_and, or_false, false_or, hM, km_37_0 hM, km_37_1 hM, km_37_2 hM, km_37_3 hM, km_37_4 hM, km_37_5 hM, km_37_6 hM, km_37_7 hM, km_37_8 hM, km_37_9 hM, km_37_10 hM, km_37_11 hM, km_37_12 hM, km_37_13 hM, km_37_14 hM, km_37_15 hM, km_37_16 hM, km_37_17 hM, km_37_18 hM, km_37_19 hM, km_37_20 hM, km_37_21 hM, km_37_22 hM, km_37_23 hM, km_37_24 hM, km_37_25 hM, km_37_26 hM, km_37_27 hM, km_37_28 hM, km_37_29 hM, km_37_30 hM, km_37_31 hM, km_37_32 hM, kmo_37 hM, kma_38 hM, kma_39 hM, kma_40 hM, kma_41 hM, kma_42 hM, kma_43 hM, kma_44 hM, kma_45 hM, kma_46 hM, kma_47 hM, kma_48 hM, kma_49 hM, kma_50 hM, kma_52 hM, kma_53 hM, kma_54 hM, kma_55 hM, kma_56 hM, kma_51 hM, T_X7_isCell, T_X7_cell, c1]
    exact hT
theorem m_X7_markedAt (l : Launch) : jHolds vwCl l yX7_markedAt wsX7_markedAt 2 43 0 0 T_X7_markedAt := by
  refine m_X7_markedAt_of l (fun G Q vs K h H0 hT => ?_)
  unfold T_X7_markedAt at hT
  split at hT
  · obtain ⟨rfl, hT⟩ := hT
    exact ⟨Nat.le_of_ble_eq_true rfl, v_X7_markedAt hT H0⟩
  · exact hT.elim

/-! X7_told -/
theorem i0 {w : Int32} (c : ¬ w = 0) : ¬ w.toInt = 0 := fun z => c (Int32.toInt_inj.mp z)
theorem i1 {w : Int32} (c : ¬ w = 1) : ¬ w.toInt = 1 := fun z => c (Int32.toInt_inj.mp z)
theorem i2 {w : Int32} (c : ¬ w = 2) : ¬ w.toInt = 2 := fun z => c (Int32.toInt_inj.mp z)
def T_X7_told : jT := fun vs K h Q => match vs with
  | [.ref r0, .int a, .int w] => r0 = 37 ∧ (jXM K ∧ (0 ≤ (h 37 8).toInt ∧ (h 37 8).toInt ≤ 6) ∧ (¬ (0 ≤ a ∧ a ≤ h 37 8 - 1) → Q (some (.int (-1001))) K h) ∧ (0 ≤ a ∧ a ≤ h 37 8 - 1 → Q (some (.int (if w.toInt = 0 then h 42 a.toNatClampNeg else if w.toInt = 1 then h 43 a.toNatClampNeg else if w.toInt = 2 then h 44 a.toNatClampNeg else if w.toInt = 3 then h 45 a.toNatClampNeg else -1001))) K h))
  | _ => False
def sg_X7_told_0 : jS := [(o_iload 1, 1), (o_ic (0), 1), (o_aload 0, 1), (o_getf 7 8, 3), (o_ic (1), 1), (o_isub, 1), (o_call 3 T_X7_in, 3), (o_ifeq 23, 3), (o_iload 2, 1), (o_ic (0), 1), (o_ic (3), 1), (o_call 3 T_X7_in, 3), (o_ifne 27, 3), (o_ic (-1001), 3), (o_ireti, 1)]
def sg_X7_told_23 : jS := [(o_ic (-1001), 3), (o_ireti, 1)]
def sg_X7_told_27 : jS := [(o_iload 2, 1), (o_ifne 40, 3), (o_aload 0, 1), (o_getf 7 9, 3), (o_iload 1, 1), (o_iald, 1), (o_goto 74, 3)]
def sg_X7_told_40 : jS := [(o_iload 2, 1), (o_ic (1), 1), (o_icne 54, 3), (o_aload 0, 1), (o_getf 7 10, 3), (o_iload 1, 1), (o_iald, 1), (o_goto 74, 3)]
def sg_X7_told_54 : jS := [(o_iload 2, 1), (o_ic (2), 1), (o_icne 68, 3), (o_aload 0, 1), (o_getf 7 11, 3), (o_iload 1, 1), (o_iald, 1), (o_goto 74, 3)]
def sg_X7_told_68 : jS := [(o_aload 0, 1), (o_getf 7 12, 3), (o_iload 1, 1), (o_iald, 1), (o_ireti, 1)]
def sg_X7_told_74 : jS := [(o_ireti, 1)]
def cd_X7_told : Nat → jS := fun t => match t with
  | 23 => sg_X7_told_23
  | 27 => sg_X7_told_27
  | 40 => sg_X7_told_40
  | 54 => sg_X7_told_54
  | 68 => sg_X7_told_68
  | 74 => sg_X7_told_74
  | _ => []
theorem wl_X7_told_27 : Cond.fieldLink RX7 27 (TX7 9).1 (TX7 9).2.1 (TX7 9).2.2.1 ∈ wsX7_told := by decide +kernel
theorem wl_X7_told_30 : Cond.fieldLink RX7 30 (TX7 10).1 (TX7 10).2.1 (TX7 10).2.2.1 ∈ wsX7_told := by decide +kernel
theorem wl_X7_told_33 : Cond.fieldLink RX7 33 (TX7 11).1 (TX7 11).2.1 (TX7 11).2.2.1 ∈ wsX7_told := by decide +kernel
theorem wl_X7_told_36 : Cond.fieldLink RX7 36 (TX7 12).1 (TX7 12).2.1 (TX7 12).2.2.1 ∈ wsX7_told := by decide +kernel
theorem wl_X7_told_81 : Cond.fieldLink RX7 81 (TX7 8).1 (TX7 8).2.1 (TX7 8).2.2.1 ∈ wsX7_told := by decide +kernel
theorem wi_X7_told_X7 : ∀ w ∈ u_ws RX7 TX7 33, w ∈ wsX7_told := by decide +kernel
def E_X7_told (Γ : jΓ) (Q : jPost) : Prop := Γ.2.2.2.2.2.2.2.2.2.2.1 = 3 ∧ Γ.2.2.2.2.2.2.2.2.2.2.2.1 = vwCl ∧ jC Γ cX7_told RX7 "told" (some .int) wsX7_told 1 22 0 0 ∧ jR Γ Q 0 0
theorem oo_X7_told_0 {Γ : jΓ} {Q : jPost} (E : E_X7_told Γ Q) : jSA Γ Q 0 (o_iload 1) 1 := so_iload_n E.2.2.1 rfl dX7_told_0
theorem oo_X7_told_1 {Γ : jΓ} {Q : jPost} (E : E_X7_told Γ Q) : jSA Γ Q 1 (o_ic (0)) 1 := so_iconst E.2.2.1 rfl dX7_told_1
theorem oo_X7_told_2 {Γ : jΓ} {Q : jPost} (E : E_X7_told Γ Q) : jSA Γ Q 2 (o_aload 0) 1 := so_aload_n E.2.2.1 rfl dX7_told_2
theorem oo_X7_told_3 {Γ : jΓ} {Q : jPost} (E : E_X7_told Γ Q) : jSA Γ Q 3 (o_getf 7 8) 3 := so_getf (ci := 7) E.2.2.1 wi_X7_told_X7 (by rw [E.2.1]; rfl) 8 (by decide) wl_X7_told_81 dX7_told_3
theorem oo_X7_told_6 {Γ : jΓ} {Q : jPost} (E : E_X7_told Γ Q) : jSA Γ Q 6 (o_ic (1)) 1 := so_iconst E.2.2.1 rfl dX7_told_6
theorem oo_X7_told_7 {Γ : jΓ} {Q : jPost} (E : E_X7_told Γ Q) : jSA Γ Q 7 (o_isub) 1 := so_isub E.2.2.1 dX7_told_7
theorem oo_X7_told_8 {Γ : jΓ} {Q : jPost} (E : E_X7_told Γ Q) : jSA Γ Q 8 (o_call 3 T_X7_in) 3 := so_callS E.2.2.1 gX7_told_X7_in (by decide +kernel) rfl (by rw [E.2.1]; exact m_X7_in _) (by decide) (by decide) dX7_told_8
theorem oo_X7_told_11 {Γ : jΓ} {Q : jPost} (E : E_X7_told Γ Q) : jSA Γ Q 11 (o_ifeq 23) 3 := so_ifeq E.2.2.1 (by decide) dX7_told_11
theorem oo_X7_told_14 {Γ : jΓ} {Q : jPost} (E : E_X7_told Γ Q) : jSA Γ Q 14 (o_iload 2) 1 := so_iload_n E.2.2.1 rfl dX7_told_14
theorem oo_X7_told_15 {Γ : jΓ} {Q : jPost} (E : E_X7_told Γ Q) : jSA Γ Q 15 (o_ic (0)) 1 := so_iconst E.2.2.1 rfl dX7_told_15
theorem oo_X7_told_16 {Γ : jΓ} {Q : jPost} (E : E_X7_told Γ Q) : jSA Γ Q 16 (o_ic (3)) 1 := so_iconst E.2.2.1 rfl dX7_told_16
theorem oo_X7_told_17 {Γ : jΓ} {Q : jPost} (E : E_X7_told Γ Q) : jSA Γ Q 17 (o_call 3 T_X7_in) 3 := so_callS E.2.2.1 gX7_told_X7_in (by decide +kernel) rfl (by rw [E.2.1]; exact m_X7_in _) (by decide) (by decide) dX7_told_17
theorem oo_X7_told_20 {Γ : jΓ} {Q : jPost} (E : E_X7_told Γ Q) : jSA Γ Q 20 (o_ifne 27) 3 := so_ifne E.2.2.1 (by decide) dX7_told_20
theorem oo_X7_told_23 {Γ : jΓ} {Q : jPost} (E : E_X7_told Γ Q) : jSA Γ Q 23 (o_ic (-1001)) 3 := so_sipush E.2.2.1 rfl dX7_told_23
theorem oo_X7_told_26 {Γ : jΓ} {Q : jPost} (E : E_X7_told Γ Q) : jSA Γ Q 26 (o_ireti) 1 := so_ireti E.2.2.1 E.2.2.2 dX7_told_26
theorem oo_X7_told_27 {Γ : jΓ} {Q : jPost} (E : E_X7_told Γ Q) : jSA Γ Q 27 (o_iload 2) 1 := so_iload_n E.2.2.1 rfl dX7_told_27
theorem oo_X7_told_28 {Γ : jΓ} {Q : jPost} (E : E_X7_told Γ Q) : jSA Γ Q 28 (o_ifne 40) 3 := so_ifne E.2.2.1 (by decide) dX7_told_28
theorem oo_X7_told_31 {Γ : jΓ} {Q : jPost} (E : E_X7_told Γ Q) : jSA Γ Q 31 (o_aload 0) 1 := so_aload_n E.2.2.1 rfl dX7_told_31
theorem oo_X7_told_32 {Γ : jΓ} {Q : jPost} (E : E_X7_told Γ Q) : jSA Γ Q 32 (o_getf 7 9) 3 := so_getf (ci := 7) E.2.2.1 wi_X7_told_X7 (by rw [E.2.1]; rfl) 9 (by decide) wl_X7_told_27 dX7_told_32
theorem oo_X7_told_35 {Γ : jΓ} {Q : jPost} (E : E_X7_told Γ Q) : jSA Γ Q 35 (o_iload 1) 1 := so_iload_n E.2.2.1 rfl dX7_told_35
theorem oo_X7_told_36 {Γ : jΓ} {Q : jPost} (E : E_X7_told Γ Q) : jSA Γ Q 36 (o_iald) 1 := so_iald E.2.2.1 dX7_told_36
theorem oo_X7_told_37 {Γ : jΓ} {Q : jPost} (E : E_X7_told Γ Q) : jSA Γ Q 37 (o_goto 74) 3 := so_goto E.2.2.1 (by decide) dX7_told_37
theorem oo_X7_told_40 {Γ : jΓ} {Q : jPost} (E : E_X7_told Γ Q) : jSA Γ Q 40 (o_iload 2) 1 := so_iload_n E.2.2.1 rfl dX7_told_40
theorem oo_X7_told_41 {Γ : jΓ} {Q : jPost} (E : E_X7_told Γ Q) : jSA Γ Q 41 (o_ic (1)) 1 := so_iconst E.2.2.1 rfl dX7_told_41
theorem oo_X7_told_42 {Γ : jΓ} {Q : jPost} (E : E_X7_told Γ Q) : jSA Γ Q 42 (o_icne 54) 3 := so_icne E.2.2.1 (by decide) dX7_told_42
theorem oo_X7_told_45 {Γ : jΓ} {Q : jPost} (E : E_X7_told Γ Q) : jSA Γ Q 45 (o_aload 0) 1 := so_aload_n E.2.2.1 rfl dX7_told_45
theorem oo_X7_told_46 {Γ : jΓ} {Q : jPost} (E : E_X7_told Γ Q) : jSA Γ Q 46 (o_getf 7 10) 3 := so_getf (ci := 7) E.2.2.1 wi_X7_told_X7 (by rw [E.2.1]; rfl) 10 (by decide) wl_X7_told_30 dX7_told_46
theorem oo_X7_told_49 {Γ : jΓ} {Q : jPost} (E : E_X7_told Γ Q) : jSA Γ Q 49 (o_iload 1) 1 := so_iload_n E.2.2.1 rfl dX7_told_49
theorem oo_X7_told_50 {Γ : jΓ} {Q : jPost} (E : E_X7_told Γ Q) : jSA Γ Q 50 (o_iald) 1 := so_iald E.2.2.1 dX7_told_50
theorem oo_X7_told_51 {Γ : jΓ} {Q : jPost} (E : E_X7_told Γ Q) : jSA Γ Q 51 (o_goto 74) 3 := so_goto E.2.2.1 (by decide) dX7_told_51
theorem oo_X7_told_54 {Γ : jΓ} {Q : jPost} (E : E_X7_told Γ Q) : jSA Γ Q 54 (o_iload 2) 1 := so_iload_n E.2.2.1 rfl dX7_told_54
theorem oo_X7_told_55 {Γ : jΓ} {Q : jPost} (E : E_X7_told Γ Q) : jSA Γ Q 55 (o_ic (2)) 1 := so_iconst E.2.2.1 rfl dX7_told_55
theorem oo_X7_told_56 {Γ : jΓ} {Q : jPost} (E : E_X7_told Γ Q) : jSA Γ Q 56 (o_icne 68) 3 := so_icne E.2.2.1 (by decide) dX7_told_56
theorem oo_X7_told_59 {Γ : jΓ} {Q : jPost} (E : E_X7_told Γ Q) : jSA Γ Q 59 (o_aload 0) 1 := so_aload_n E.2.2.1 rfl dX7_told_59
theorem oo_X7_told_60 {Γ : jΓ} {Q : jPost} (E : E_X7_told Γ Q) : jSA Γ Q 60 (o_getf 7 11) 3 := so_getf (ci := 7) E.2.2.1 wi_X7_told_X7 (by rw [E.2.1]; rfl) 11 (by decide) wl_X7_told_33 dX7_told_60
theorem oo_X7_told_63 {Γ : jΓ} {Q : jPost} (E : E_X7_told Γ Q) : jSA Γ Q 63 (o_iload 1) 1 := so_iload_n E.2.2.1 rfl dX7_told_63
theorem oo_X7_told_64 {Γ : jΓ} {Q : jPost} (E : E_X7_told Γ Q) : jSA Γ Q 64 (o_iald) 1 := so_iald E.2.2.1 dX7_told_64
theorem oo_X7_told_65 {Γ : jΓ} {Q : jPost} (E : E_X7_told Γ Q) : jSA Γ Q 65 (o_goto 74) 3 := so_goto E.2.2.1 (by decide) dX7_told_65
theorem oo_X7_told_68 {Γ : jΓ} {Q : jPost} (E : E_X7_told Γ Q) : jSA Γ Q 68 (o_aload 0) 1 := so_aload_n E.2.2.1 rfl dX7_told_68
theorem oo_X7_told_69 {Γ : jΓ} {Q : jPost} (E : E_X7_told Γ Q) : jSA Γ Q 69 (o_getf 7 12) 3 := so_getf (ci := 7) E.2.2.1 wi_X7_told_X7 (by rw [E.2.1]; rfl) 12 (by decide) wl_X7_told_36 dX7_told_69
theorem oo_X7_told_72 {Γ : jΓ} {Q : jPost} (E : E_X7_told Γ Q) : jSA Γ Q 72 (o_iload 1) 1 := so_iload_n E.2.2.1 rfl dX7_told_72
theorem oo_X7_told_73 {Γ : jΓ} {Q : jPost} (E : E_X7_told Γ Q) : jSA Γ Q 73 (o_iald) 1 := so_iald E.2.2.1 dX7_told_73
theorem oo_X7_told_74 {Γ : jΓ} {Q : jPost} (E : E_X7_told Γ Q) : jSA Γ Q 74 (o_ireti) 1 := so_ireti E.2.2.1 E.2.2.2 dX7_told_74
theorem ok_X7_told_0 {Γ : jΓ} {Q : jPost} (E : E_X7_told Γ Q) : jSS Γ Q 0 sg_X7_told_0 := ⟨oo_X7_told_0 E, oo_X7_told_1 E, oo_X7_told_2 E, oo_X7_told_3 E, oo_X7_told_6 E, oo_X7_told_7 E, oo_X7_told_8 E, oo_X7_told_11 E, oo_X7_told_14 E, oo_X7_told_15 E, oo_X7_told_16 E, oo_X7_told_17 E, oo_X7_told_20 E, oo_X7_told_23 E, oo_X7_told_26 E, trivial⟩
theorem ok_X7_told_23 {Γ : jΓ} {Q : jPost} (E : E_X7_told Γ Q) : jSS Γ Q 23 sg_X7_told_23 := ⟨oo_X7_told_23 E, oo_X7_told_26 E, trivial⟩
theorem ok_X7_told_27 {Γ : jΓ} {Q : jPost} (E : E_X7_told Γ Q) : jSS Γ Q 27 sg_X7_told_27 := ⟨oo_X7_told_27 E, oo_X7_told_28 E, oo_X7_told_31 E, oo_X7_told_32 E, oo_X7_told_35 E, oo_X7_told_36 E, oo_X7_told_37 E, trivial⟩
theorem ok_X7_told_40 {Γ : jΓ} {Q : jPost} (E : E_X7_told Γ Q) : jSS Γ Q 40 sg_X7_told_40 := ⟨oo_X7_told_40 E, oo_X7_told_41 E, oo_X7_told_42 E, oo_X7_told_45 E, oo_X7_told_46 E, oo_X7_told_49 E, oo_X7_told_50 E, oo_X7_told_51 E, trivial⟩
theorem ok_X7_told_54 {Γ : jΓ} {Q : jPost} (E : E_X7_told Γ Q) : jSS Γ Q 54 sg_X7_told_54 := ⟨oo_X7_told_54 E, oo_X7_told_55 E, oo_X7_told_56 E, oo_X7_told_59 E, oo_X7_told_60 E, oo_X7_told_63 E, oo_X7_told_64 E, oo_X7_told_65 E, trivial⟩
theorem ok_X7_told_68 {Γ : jΓ} {Q : jPost} (E : E_X7_told Γ Q) : jSS Γ Q 68 sg_X7_told_68 := ⟨oo_X7_told_68 E, oo_X7_told_69 E, oo_X7_told_72 E, oo_X7_told_73 E, oo_X7_told_74 E, trivial⟩
theorem ok_X7_told_74 {Γ : jΓ} {Q : jPost} (E : E_X7_told Γ Q) : jSS Γ Q 74 sg_X7_told_74 := ⟨oo_X7_told_74 E, trivial⟩
theorem okc_X7_told {Γ : jΓ} {Q : jPost} (E : E_X7_told Γ Q) (t : Nat) : jSS Γ Q t (cd_X7_told t) := by
  unfold cd_X7_told
  split
  · exact ok_X7_told_23 E
  · exact ok_X7_told_27 E
  · exact ok_X7_told_40 E
  · exact ok_X7_told_54 E
  · exact ok_X7_told_68 E
  · exact ok_X7_told_74 E
  · trivial
theorem m_X7_told_of (l : Launch) (hv : ∀ (G : jGt) (Q : jPost) (vs : List Value) (K : List jK) (h : jM), jHd cd_X7_told G Q sg_X7_told_0 0 → T_X7_told vs K h Q → (lg_sl vs).length ≤ 3 ∧ G 0 (jinit vs 3) [] K h 0 0) : jHolds vwCl l yX7_told wsX7_told 1 22 0 0 T_X7_told := by
  refine jMet (cc := cX7_told) (maxL := 3) (rt := (some .int)) (by decide +kernel) rfl (fun Γ Q vs K h hl hn hcl C hR hT => hv (jG Γ) Q vs K h ?_ hT)
  · exact fun n L st K h ce sl => jwp_ok (okc_X7_told ⟨hn, hcl, C, hR⟩) n sg_X7_told_0 0 (ok_X7_told_0 ⟨hn, hcl, C, hR⟩) L st K h ce sl
set_option maxHeartbeats 4000000 in
set_option maxRecDepth 100000 in
theorem v_X7_told {G : jGt} {Q : jPost} {K : List jK} {h : jM} {a : Int32} {w : Int32} (hT : jXM K ∧ (0 ≤ (h 37 8).toInt ∧ (h 37 8).toInt ≤ 6) ∧ (¬ (0 ≤ a ∧ a ≤ h 37 8 - 1) → Q (some (.int (-1001))) K h) ∧ (0 ≤ a ∧ a ≤ h 37 8 - 1 → Q (some (.int (if w.toInt = 0 then h 42 a.toNatClampNeg else if w.toInt = 1 then h 43 a.toNatClampNeg else if w.toInt = 2 then h 44 a.toNatClampNeg else if w.toInt = 3 then h 45 a.toNatClampNeg else -1001))) K h)) (H0 : jHd cd_X7_told G Q sg_X7_told_0 0) : G 0 [some (.ref 37), some (.int a), some (.int w)] [] K h 0 0 := by
  obtain ⟨hM, ⟨ht0, ht1⟩, hT0, hT1⟩ := hT
  refine H0 80 _ _ _ _ _ _ ?_
  by_cases c1 : 0 ≤ a ∧ a ≤ h 37 8 - 1
  · have hT1 := hT1 c1
    have e1 : (0 : Int) ≤ a.toInt := le_of_lit c1.1
    have e2 : a.toInt ≤ (h 37 8 - 1).toInt := le_of_lit c1.2
    have e3 : (h 37 8 - 1).toInt = (h 37 8).toInt - 1 := ti_sub (by show _ ≤ _ - (1 : Int); omega) (by show _ - (1 : Int) < _; omega)
    have hv : vp_in a 6 := vp_in_iff.mpr ⟨e1, by omega⟩
    by_cases c2 : 0 ≤ w ∧ w ≤ 3
    · have d1 : (0 : Int) ≤ w.toInt := le_of_lit c2.1
      have d2 : w.toInt ≤ (3 : Int) := le_of_lit c2.2
      simp only [sg_X7_told_0, sg_X7_told_23, sg_X7_told_27, sg_X7_told_40, sg_X7_told_54, sg_X7_told_68, sg_X7_told_74, cd_X7_told, jwp, o_ic, o_lc, o_iload, o_lload, o_aload, o_istore, o_lstore, o_astore, o_iinc, o_pop, o_dup, o_dup2, o_iadd, o_isub, o_imul, o_iand, o_ior, o_ishl, o_ladd, o_lmul, o_land, o_lor, o_idiv, o_irem, o_ineg, o_i2l, o_l2i, o_i2b, o_i2s, o_lushr, o_lshr, o_lshl, o_lcmp, o_ifeq, o_ifne, o_iflt, o_ifge, o_ifgt, o_ifle, o_iceq, o_icne, o_iclt, o_icge, o_icgt, o_icle, o_goto, o_tsw, jsw, o_lsw, jlk, o_getf, o_putf, o_putz, o_iald, o_zald, o_iast, o_zast, o_aald, o_alen, o_gets, o_zld, o_zlen, o_cpy, o_call, o_callV, o_ireti, o_iretz, o_lret, o_vret, jg, js, jkp, jkill, jsp, jcs, jfw, jov, Value.category, Option.toList_some, Option.toList_none, List.nil_append, List.cons_append, List.append_nil, Nat.reduceAdd, true_and, and_true, jb0, jb01, jb1, jem, true_or, or_true, Classical.not_not, forall_const, List.length_cons, List.length_nil, Nat.reduceLeDiff, Nat.zero_le, Nat.reduceLT, and_self, not_true_eq_false, not_false_eq_true, false_imp_iff, true_imp_iff, implies_true, and_false, false_and, or_false, false_or, hM, km_37_0 hM, km_37_1 hM, km_37_2 hM, km_37_3 hM, km_37_4 hM, km_37_5 hM, km_37_6 hM, km_37_7 hM, km_37_8 hM, km_37_9 hM, km_37_10 hM, km_37_11 hM, km_37_12 hM, km_37_13 hM, km_37_14 hM, km_37_15 hM, km_37_16 hM, km_37_17 hM, km_37_18 hM, km_37_19 hM, km_37_20 hM, km_37_21 hM, km_37_22 hM, km_37_23 hM, km_37_24 hM, km_37_25 hM, km_37_26 hM, km_37_27 hM, km_37_28 hM, km_37_29 hM, km_37_30 hM, km_37_31 hM, km_37_32 hM, kmo_37 hM, kma_38 hM, kma_39 hM, kma_40 hM, kma_41 hM, kma_42 hM, kma_43 hM, kma_44 hM, kma_45 hM, kma_46 hM, kma_47 hM, kma_48 hM, kma_49 hM, kma_50 hM, kma_52 hM, kma_53 hM, kma_54 hM, kma_55 hM, kma_56 hM, kma_51 hM, T_X7_in, c1, c2, hv]
      refine ⟨fun c => ⟨fun c3 => ⟨fun c4 => ?_, fun c4 => ?_⟩, fun c3 => ?_⟩, fun c => ?_⟩
      · rw [if_neg (i0 c), if_neg (i1 c3), if_neg (i2 c4)] at hT1
        have n0 := i0 c; have n1 := i1 c3; have n2 := i2 c4
        rw [if_pos (by omega)] at hT1; exact hT1
      · rw [if_neg (i0 c), if_neg (i1 c3), if_pos (by rw [c4]; rfl)] at hT1; exact hT1
      · rw [if_neg (i0 c), if_pos (by rw [c3]; rfl)] at hT1; exact hT1
      · rw [if_pos (by rw [c]; rfl)] at hT1; exact hT1
    · simp only [sg_X7_told_0, sg_X7_told_23, sg_X7_told_27, sg_X7_told_40, sg_X7_told_54, sg_X7_told_68, sg_X7_told_74, cd_X7_told, jwp, o_ic, o_lc, o_iload, o_lload, o_aload, o_istore, o_lstore, o_astore, o_iinc, o_pop, o_dup, o_dup2, o_iadd, o_isub, o_imul, o_iand, o_ior, o_ishl, o_ladd, o_lmul, o_land, o_lor, o_idiv, o_irem, o_ineg, o_i2l, o_l2i, o_i2b, o_i2s, o_lushr, o_lshr, o_lshl, o_lcmp, o_ifeq, o_ifne, o_iflt, o_ifge, o_ifgt, o_ifle, o_iceq, o_icne, o_iclt, o_icge, o_icgt, o_icle, o_goto, o_tsw, jsw, o_lsw, jlk, o_getf, o_putf, o_putz, o_iald, o_zald, o_iast, o_zast, o_aald, o_alen, o_gets, o_zld, o_zlen, o_cpy, o_call, o_callV, o_ireti, o_iretz, o_lret, o_vret, jg, js, jkp, jkill, jsp, jcs, jfw, jov, Value.category, Option.toList_some, Option.toList_none, List.nil_append, List.cons_append, List.append_nil, Nat.reduceAdd, true_and, and_true, jb0, jb01, jb1, jem, true_or, or_true, Classical.not_not, forall_const, List.length_cons, List.length_nil, Nat.reduceLeDiff, Nat.zero_le, Nat.reduceLT, and_self, not_true_eq_false, not_false_eq_true, false_imp_iff, true_imp_iff, implies_true, and_false, false_and, or_false, false_or, hM, km_37_0 hM, km_37_1 hM, km_37_2 hM, km_37_3 hM, km_37_4 hM, km_37_5 hM, km_37_6 hM, km_37_7 hM, km_37_8 hM, km_37_9 hM, km_37_10 hM, km_37_11 hM, km_37_12 hM, km_37_13 hM, km_37_14 hM, km_37_15 hM, km_37_16 hM, km_37_17 hM, km_37_18 hM, km_37_19 hM, km_37_20 hM, km_37_21 hM, km_37_22 hM, km_37_23 hM, km_37_24 hM, km_37_25 hM, km_37_26 hM, km_37_27 hM, km_37_28 hM, km_37_29 hM, km_37_30 hM, km_37_31 hM, km_37_32 hM, kmo_37 hM, kma_38 hM, kma_39 hM, kma_40 hM, kma_41 hM, kma_42 hM, kma_43 hM, kma_44 hM, kma_45 hM, kma_46 hM, kma_47 hM, kma_48 hM, kma_49 hM, kma_50 hM, kma_52 hM, kma_53 hM, kma_54 hM, kma_55 hM, kma_56 hM, kma_51 hM, T_X7_in, c1, c2, hv]
      have d : ¬ (0 ≤ w.toInt ∧ w.toInt ≤ 3) := fun z => c2 ⟨by rw [Int32.le_iff_toInt_le]; exact z.1, by rw [Int32.le_iff_toInt_le]; exact z.2⟩
      rw [if_neg (by omega), if_neg (by omega), if_neg (by omega), if_neg (by omega)] at hT1
      exact hT1
  · have hT0 := hT0 c1
    simp only [sg_X7_told_0, sg_X7_told_23, sg_X7_told_27, sg_X7_told_40, sg_X7_told_54, sg_X7_told_68, sg_X7_told_74, cd_X7_told, jwp, o_ic, o_lc, o_iload, o_lload, o_aload, o_istore, o_lstore, o_astore, o_iinc, o_pop, o_dup, o_dup2, o_iadd, o_isub, o_imul, o_iand, o_ior, o_ishl, o_ladd, o_lmul, o_land, o_lor, o_idiv, o_irem, o_ineg, o_i2l, o_l2i, o_i2b, o_i2s, o_lushr, o_lshr, o_lshl, o_lcmp, o_ifeq, o_ifne, o_iflt, o_ifge, o_ifgt, o_ifle, o_iceq, o_icne, o_iclt, o_icge, o_icgt, o_icle, o_goto, o_tsw, jsw, o_lsw, jlk, o_getf, o_putf, o_putz, o_iald, o_zald, o_iast, o_zast, o_aald, o_alen, o_gets, o_zld, o_zlen, o_cpy, o_call, o_callV, o_ireti, o_iretz, o_lret, o_vret, jg, js, jkp, jkill, jsp, jcs, jfw, jov, Value.category, Option.toList_some, Option.toList_none, List.nil_append, List.cons_append, List.append_nil, Nat.reduceAdd, true_and, and_true, jb0, jb01, jb1, jem, true_or, or_true, Classical.not_not, forall_const, List.length_cons, List.length_nil, Nat.reduceLeDiff, Nat.zero_le, Nat.reduceLT, and_self, not_true_eq_false, not_false_eq_true, false_imp_iff, true_imp_iff, implies_true, and_false, false_and, or_false, false_or, hM, km_37_0 hM, km_37_1 hM, km_37_2 hM, km_37_3 hM, km_37_4 hM, km_37_5 hM, km_37_6 hM, km_37_7 hM, km_37_8 hM, km_37_9 hM, km_37_10 hM, km_37_11 hM, km_37_12 hM, km_37_13 hM, km_37_14 hM, km_37_15 hM, km_37_16 hM, km_37_17 hM, km_37_18 hM, km_37_19 hM, km_37_20 hM, km_37_21 hM, km_37_22 hM, km_37_23 hM, km_37_24 hM, km_37_25 hM, km_37_26 hM, km_37_27 hM, km_37_28 hM, km_37_29 hM, km_37_30 hM, km_37_31 hM, km_37_32 hM, kmo_37 hM, kma_38 hM, kma_39 hM, kma_40 hM, kma_41 hM, kma_42 hM, kma_43 hM, kma_44 hM, kma_45 hM, kma_46 hM, kma_47 hM, kma_48 hM, kma_49 hM, kma_50 hM, kma_52 hM, kma_53 hM, kma_54 hM, kma_55 hM, kma_56 hM, kma_51 hM, T_X7_in, c1]
    exact hT0
theorem m_X7_told (l : Launch) : jHolds vwCl l yX7_told wsX7_told 1 22 0 0 T_X7_told := by
  refine m_X7_told_of l (fun G Q vs K h H0 hT => ?_)
  unfold T_X7_told at hT
  split at hT
  · obtain ⟨rfl, hT⟩ := hT
    exact ⟨Nat.le_of_ble_eq_true rfl, v_X7_told hT H0⟩
  · exact hT.elim

/-! X7_meeting -/
def T_X7_meeting : jT := fun vs K h Q => match vs with
  | [.ref r0, .int i, .int w] => r0 = 37 ∧ (jXM K ∧ 0 ≤ (h 37 14).toInt ∧ (¬ (0 ≤ i ∧ i ≤ (if h 37 14 < 60 then h 37 14 else 60) - 1) → Q (some (.int (-1000001))) K h) ∧ (0 ≤ i ∧ i ≤ (if h 37 14 < 60 then h 37 14 else 60) - 1 → Q (some (.int (if w.toInt = 0 then h 47 i.toNatClampNeg else if w.toInt = 1 then h 48 i.toNatClampNeg else if w.toInt = 2 then h 49 i.toNatClampNeg else if w.toInt = 3 then h 50 i.toNatClampNeg else -1000001))) K h))
  | _ => False
def sg_X7_meeting_0 : jS := [(o_iload 1, 1), (o_ic (0), 1), (o_aload 0, 1), (o_getf 7 14, 3), (o_ic (60), 2), (o_icge 18, 3), (o_aload 0, 1), (o_getf 7 14, 3), (o_goto 20, 3)]
def sg_X7_meeting_18 : jS := [(o_ic (60), 2)]
def sg_X7_meeting_20 : jS := [(o_ic (1), 1), (o_isub, 1), (o_call 3 T_X7_in, 3), (o_ifeq 37, 3), (o_iload 2, 1), (o_ic (0), 1), (o_ic (3), 1), (o_call 3 T_X7_in, 3), (o_ifne 40, 3), (o_ic (-1000001), 2), (o_ireti, 1)]
def sg_X7_meeting_37 : jS := [(o_ic (-1000001), 2), (o_ireti, 1)]
def sg_X7_meeting_40 : jS := [(o_iload 2, 1), (o_ifne 53, 3), (o_aload 0, 1), (o_getf 7 15, 3), (o_iload 1, 1), (o_iald, 1), (o_goto 87, 3)]
def sg_X7_meeting_53 : jS := [(o_iload 2, 1), (o_ic (1), 1), (o_icne 67, 3), (o_aload 0, 1), (o_getf 7 16, 3), (o_iload 1, 1), (o_iald, 1), (o_goto 87, 3)]
def sg_X7_meeting_67 : jS := [(o_iload 2, 1), (o_ic (2), 1), (o_icne 81, 3), (o_aload 0, 1), (o_getf 7 17, 3), (o_iload 1, 1), (o_iald, 1), (o_goto 87, 3)]
def sg_X7_meeting_81 : jS := [(o_aload 0, 1), (o_getf 7 18, 3), (o_iload 1, 1), (o_iald, 1), (o_ireti, 1)]
def sg_X7_meeting_87 : jS := [(o_ireti, 1)]
def cd_X7_meeting : Nat → jS := fun t => match t with
  | 18 => sg_X7_meeting_18
  | 37 => sg_X7_meeting_37
  | 40 => sg_X7_meeting_40
  | 53 => sg_X7_meeting_53
  | 67 => sg_X7_meeting_67
  | 81 => sg_X7_meeting_81
  | 87 => sg_X7_meeting_87
  | _ => []
theorem wl_X7_meeting_42 : Cond.fieldLink RX7 42 (TX7 15).1 (TX7 15).2.1 (TX7 15).2.2.1 ∈ wsX7_meeting := by decide +kernel
theorem wl_X7_meeting_45 : Cond.fieldLink RX7 45 (TX7 16).1 (TX7 16).2.1 (TX7 16).2.2.1 ∈ wsX7_meeting := by decide +kernel
theorem wl_X7_meeting_48 : Cond.fieldLink RX7 48 (TX7 17).1 (TX7 17).2.1 (TX7 17).2.2.1 ∈ wsX7_meeting := by decide +kernel
theorem wl_X7_meeting_51 : Cond.fieldLink RX7 51 (TX7 18).1 (TX7 18).2.1 (TX7 18).2.2.1 ∈ wsX7_meeting := by decide +kernel
theorem wl_X7_meeting_94 : Cond.fieldLink RX7 94 (TX7 14).1 (TX7 14).2.1 (TX7 14).2.2.1 ∈ wsX7_meeting := by decide +kernel
theorem wi_X7_meeting_X7 : ∀ w ∈ u_ws RX7 TX7 33, w ∈ wsX7_meeting := by decide +kernel
def E_X7_meeting (Γ : jΓ) (Q : jPost) : Prop := Γ.2.2.2.2.2.2.2.2.2.2.1 = 3 ∧ Γ.2.2.2.2.2.2.2.2.2.2.2.1 = vwCl ∧ jC Γ cX7_meeting RX7 "meeting" (some .int) wsX7_meeting 1 22 0 0 ∧ jR Γ Q 0 0
theorem oo_X7_meeting_0 {Γ : jΓ} {Q : jPost} (E : E_X7_meeting Γ Q) : jSA Γ Q 0 (o_iload 1) 1 := so_iload_n E.2.2.1 rfl dX7_meeting_0
theorem oo_X7_meeting_1 {Γ : jΓ} {Q : jPost} (E : E_X7_meeting Γ Q) : jSA Γ Q 1 (o_ic (0)) 1 := so_iconst E.2.2.1 rfl dX7_meeting_1
theorem oo_X7_meeting_2 {Γ : jΓ} {Q : jPost} (E : E_X7_meeting Γ Q) : jSA Γ Q 2 (o_aload 0) 1 := so_aload_n E.2.2.1 rfl dX7_meeting_2
theorem oo_X7_meeting_3 {Γ : jΓ} {Q : jPost} (E : E_X7_meeting Γ Q) : jSA Γ Q 3 (o_getf 7 14) 3 := so_getf (ci := 7) E.2.2.1 wi_X7_meeting_X7 (by rw [E.2.1]; rfl) 14 (by decide) wl_X7_meeting_94 dX7_meeting_3
theorem oo_X7_meeting_6 {Γ : jΓ} {Q : jPost} (E : E_X7_meeting Γ Q) : jSA Γ Q 6 (o_ic (60)) 2 := so_bipush E.2.2.1 rfl dX7_meeting_6
theorem oo_X7_meeting_8 {Γ : jΓ} {Q : jPost} (E : E_X7_meeting Γ Q) : jSA Γ Q 8 (o_icge 18) 3 := so_icge E.2.2.1 (by decide) dX7_meeting_8
theorem oo_X7_meeting_11 {Γ : jΓ} {Q : jPost} (E : E_X7_meeting Γ Q) : jSA Γ Q 11 (o_aload 0) 1 := so_aload_n E.2.2.1 rfl dX7_meeting_11
theorem oo_X7_meeting_12 {Γ : jΓ} {Q : jPost} (E : E_X7_meeting Γ Q) : jSA Γ Q 12 (o_getf 7 14) 3 := so_getf (ci := 7) E.2.2.1 wi_X7_meeting_X7 (by rw [E.2.1]; rfl) 14 (by decide) wl_X7_meeting_94 dX7_meeting_12
theorem oo_X7_meeting_15 {Γ : jΓ} {Q : jPost} (E : E_X7_meeting Γ Q) : jSA Γ Q 15 (o_goto 20) 3 := so_goto E.2.2.1 (by decide) dX7_meeting_15
theorem oo_X7_meeting_18 {Γ : jΓ} {Q : jPost} (E : E_X7_meeting Γ Q) : jSA Γ Q 18 (o_ic (60)) 2 := so_bipush E.2.2.1 rfl dX7_meeting_18
theorem oo_X7_meeting_20 {Γ : jΓ} {Q : jPost} (E : E_X7_meeting Γ Q) : jSA Γ Q 20 (o_ic (1)) 1 := so_iconst E.2.2.1 rfl dX7_meeting_20
theorem oo_X7_meeting_21 {Γ : jΓ} {Q : jPost} (E : E_X7_meeting Γ Q) : jSA Γ Q 21 (o_isub) 1 := so_isub E.2.2.1 dX7_meeting_21
theorem oo_X7_meeting_22 {Γ : jΓ} {Q : jPost} (E : E_X7_meeting Γ Q) : jSA Γ Q 22 (o_call 3 T_X7_in) 3 := so_callS E.2.2.1 gX7_meeting_X7_in (by decide +kernel) rfl (by rw [E.2.1]; exact m_X7_in _) (by decide) (by decide) dX7_meeting_22
theorem oo_X7_meeting_25 {Γ : jΓ} {Q : jPost} (E : E_X7_meeting Γ Q) : jSA Γ Q 25 (o_ifeq 37) 3 := so_ifeq E.2.2.1 (by decide) dX7_meeting_25
theorem oo_X7_meeting_28 {Γ : jΓ} {Q : jPost} (E : E_X7_meeting Γ Q) : jSA Γ Q 28 (o_iload 2) 1 := so_iload_n E.2.2.1 rfl dX7_meeting_28
theorem oo_X7_meeting_29 {Γ : jΓ} {Q : jPost} (E : E_X7_meeting Γ Q) : jSA Γ Q 29 (o_ic (0)) 1 := so_iconst E.2.2.1 rfl dX7_meeting_29
theorem oo_X7_meeting_30 {Γ : jΓ} {Q : jPost} (E : E_X7_meeting Γ Q) : jSA Γ Q 30 (o_ic (3)) 1 := so_iconst E.2.2.1 rfl dX7_meeting_30
theorem oo_X7_meeting_31 {Γ : jΓ} {Q : jPost} (E : E_X7_meeting Γ Q) : jSA Γ Q 31 (o_call 3 T_X7_in) 3 := so_callS E.2.2.1 gX7_meeting_X7_in (by decide +kernel) rfl (by rw [E.2.1]; exact m_X7_in _) (by decide) (by decide) dX7_meeting_31
theorem oo_X7_meeting_34 {Γ : jΓ} {Q : jPost} (E : E_X7_meeting Γ Q) : jSA Γ Q 34 (o_ifne 40) 3 := so_ifne E.2.2.1 (by decide) dX7_meeting_34
theorem oo_X7_meeting_37 {Γ : jΓ} {Q : jPost} (E : E_X7_meeting Γ Q) : jSA Γ Q 37 (o_ic (-1000001)) 2 := so_ldc E.2.2.1 (by decide +kernel) dX7_meeting_37
theorem oo_X7_meeting_39 {Γ : jΓ} {Q : jPost} (E : E_X7_meeting Γ Q) : jSA Γ Q 39 (o_ireti) 1 := so_ireti E.2.2.1 E.2.2.2 dX7_meeting_39
theorem oo_X7_meeting_40 {Γ : jΓ} {Q : jPost} (E : E_X7_meeting Γ Q) : jSA Γ Q 40 (o_iload 2) 1 := so_iload_n E.2.2.1 rfl dX7_meeting_40
theorem oo_X7_meeting_41 {Γ : jΓ} {Q : jPost} (E : E_X7_meeting Γ Q) : jSA Γ Q 41 (o_ifne 53) 3 := so_ifne E.2.2.1 (by decide) dX7_meeting_41
theorem oo_X7_meeting_44 {Γ : jΓ} {Q : jPost} (E : E_X7_meeting Γ Q) : jSA Γ Q 44 (o_aload 0) 1 := so_aload_n E.2.2.1 rfl dX7_meeting_44
theorem oo_X7_meeting_45 {Γ : jΓ} {Q : jPost} (E : E_X7_meeting Γ Q) : jSA Γ Q 45 (o_getf 7 15) 3 := so_getf (ci := 7) E.2.2.1 wi_X7_meeting_X7 (by rw [E.2.1]; rfl) 15 (by decide) wl_X7_meeting_42 dX7_meeting_45
theorem oo_X7_meeting_48 {Γ : jΓ} {Q : jPost} (E : E_X7_meeting Γ Q) : jSA Γ Q 48 (o_iload 1) 1 := so_iload_n E.2.2.1 rfl dX7_meeting_48
theorem oo_X7_meeting_49 {Γ : jΓ} {Q : jPost} (E : E_X7_meeting Γ Q) : jSA Γ Q 49 (o_iald) 1 := so_iald E.2.2.1 dX7_meeting_49
theorem oo_X7_meeting_50 {Γ : jΓ} {Q : jPost} (E : E_X7_meeting Γ Q) : jSA Γ Q 50 (o_goto 87) 3 := so_goto E.2.2.1 (by decide) dX7_meeting_50
theorem oo_X7_meeting_53 {Γ : jΓ} {Q : jPost} (E : E_X7_meeting Γ Q) : jSA Γ Q 53 (o_iload 2) 1 := so_iload_n E.2.2.1 rfl dX7_meeting_53
theorem oo_X7_meeting_54 {Γ : jΓ} {Q : jPost} (E : E_X7_meeting Γ Q) : jSA Γ Q 54 (o_ic (1)) 1 := so_iconst E.2.2.1 rfl dX7_meeting_54
theorem oo_X7_meeting_55 {Γ : jΓ} {Q : jPost} (E : E_X7_meeting Γ Q) : jSA Γ Q 55 (o_icne 67) 3 := so_icne E.2.2.1 (by decide) dX7_meeting_55
theorem oo_X7_meeting_58 {Γ : jΓ} {Q : jPost} (E : E_X7_meeting Γ Q) : jSA Γ Q 58 (o_aload 0) 1 := so_aload_n E.2.2.1 rfl dX7_meeting_58
theorem oo_X7_meeting_59 {Γ : jΓ} {Q : jPost} (E : E_X7_meeting Γ Q) : jSA Γ Q 59 (o_getf 7 16) 3 := so_getf (ci := 7) E.2.2.1 wi_X7_meeting_X7 (by rw [E.2.1]; rfl) 16 (by decide) wl_X7_meeting_45 dX7_meeting_59
theorem oo_X7_meeting_62 {Γ : jΓ} {Q : jPost} (E : E_X7_meeting Γ Q) : jSA Γ Q 62 (o_iload 1) 1 := so_iload_n E.2.2.1 rfl dX7_meeting_62
theorem oo_X7_meeting_63 {Γ : jΓ} {Q : jPost} (E : E_X7_meeting Γ Q) : jSA Γ Q 63 (o_iald) 1 := so_iald E.2.2.1 dX7_meeting_63
theorem oo_X7_meeting_64 {Γ : jΓ} {Q : jPost} (E : E_X7_meeting Γ Q) : jSA Γ Q 64 (o_goto 87) 3 := so_goto E.2.2.1 (by decide) dX7_meeting_64
theorem oo_X7_meeting_67 {Γ : jΓ} {Q : jPost} (E : E_X7_meeting Γ Q) : jSA Γ Q 67 (o_iload 2) 1 := so_iload_n E.2.2.1 rfl dX7_meeting_67
theorem oo_X7_meeting_68 {Γ : jΓ} {Q : jPost} (E : E_X7_meeting Γ Q) : jSA Γ Q 68 (o_ic (2)) 1 := so_iconst E.2.2.1 rfl dX7_meeting_68
theorem oo_X7_meeting_69 {Γ : jΓ} {Q : jPost} (E : E_X7_meeting Γ Q) : jSA Γ Q 69 (o_icne 81) 3 := so_icne E.2.2.1 (by decide) dX7_meeting_69
theorem oo_X7_meeting_72 {Γ : jΓ} {Q : jPost} (E : E_X7_meeting Γ Q) : jSA Γ Q 72 (o_aload 0) 1 := so_aload_n E.2.2.1 rfl dX7_meeting_72
theorem oo_X7_meeting_73 {Γ : jΓ} {Q : jPost} (E : E_X7_meeting Γ Q) : jSA Γ Q 73 (o_getf 7 17) 3 := so_getf (ci := 7) E.2.2.1 wi_X7_meeting_X7 (by rw [E.2.1]; rfl) 17 (by decide) wl_X7_meeting_48 dX7_meeting_73
theorem oo_X7_meeting_76 {Γ : jΓ} {Q : jPost} (E : E_X7_meeting Γ Q) : jSA Γ Q 76 (o_iload 1) 1 := so_iload_n E.2.2.1 rfl dX7_meeting_76
theorem oo_X7_meeting_77 {Γ : jΓ} {Q : jPost} (E : E_X7_meeting Γ Q) : jSA Γ Q 77 (o_iald) 1 := so_iald E.2.2.1 dX7_meeting_77
theorem oo_X7_meeting_78 {Γ : jΓ} {Q : jPost} (E : E_X7_meeting Γ Q) : jSA Γ Q 78 (o_goto 87) 3 := so_goto E.2.2.1 (by decide) dX7_meeting_78
theorem oo_X7_meeting_81 {Γ : jΓ} {Q : jPost} (E : E_X7_meeting Γ Q) : jSA Γ Q 81 (o_aload 0) 1 := so_aload_n E.2.2.1 rfl dX7_meeting_81
theorem oo_X7_meeting_82 {Γ : jΓ} {Q : jPost} (E : E_X7_meeting Γ Q) : jSA Γ Q 82 (o_getf 7 18) 3 := so_getf (ci := 7) E.2.2.1 wi_X7_meeting_X7 (by rw [E.2.1]; rfl) 18 (by decide) wl_X7_meeting_51 dX7_meeting_82
theorem oo_X7_meeting_85 {Γ : jΓ} {Q : jPost} (E : E_X7_meeting Γ Q) : jSA Γ Q 85 (o_iload 1) 1 := so_iload_n E.2.2.1 rfl dX7_meeting_85
theorem oo_X7_meeting_86 {Γ : jΓ} {Q : jPost} (E : E_X7_meeting Γ Q) : jSA Γ Q 86 (o_iald) 1 := so_iald E.2.2.1 dX7_meeting_86
theorem oo_X7_meeting_87 {Γ : jΓ} {Q : jPost} (E : E_X7_meeting Γ Q) : jSA Γ Q 87 (o_ireti) 1 := so_ireti E.2.2.1 E.2.2.2 dX7_meeting_87
theorem ok_X7_meeting_0 {Γ : jΓ} {Q : jPost} (E : E_X7_meeting Γ Q) : jSS Γ Q 0 sg_X7_meeting_0 := ⟨oo_X7_meeting_0 E, oo_X7_meeting_1 E, oo_X7_meeting_2 E, oo_X7_meeting_3 E, oo_X7_meeting_6 E, oo_X7_meeting_8 E, oo_X7_meeting_11 E, oo_X7_meeting_12 E, oo_X7_meeting_15 E, trivial⟩
theorem ok_X7_meeting_18 {Γ : jΓ} {Q : jPost} (E : E_X7_meeting Γ Q) : jSS Γ Q 18 sg_X7_meeting_18 := ⟨oo_X7_meeting_18 E, trivial⟩
theorem ok_X7_meeting_20 {Γ : jΓ} {Q : jPost} (E : E_X7_meeting Γ Q) : jSS Γ Q 20 sg_X7_meeting_20 := ⟨oo_X7_meeting_20 E, oo_X7_meeting_21 E, oo_X7_meeting_22 E, oo_X7_meeting_25 E, oo_X7_meeting_28 E, oo_X7_meeting_29 E, oo_X7_meeting_30 E, oo_X7_meeting_31 E, oo_X7_meeting_34 E, oo_X7_meeting_37 E, oo_X7_meeting_39 E, trivial⟩
theorem ok_X7_meeting_37 {Γ : jΓ} {Q : jPost} (E : E_X7_meeting Γ Q) : jSS Γ Q 37 sg_X7_meeting_37 := ⟨oo_X7_meeting_37 E, oo_X7_meeting_39 E, trivial⟩
theorem ok_X7_meeting_40 {Γ : jΓ} {Q : jPost} (E : E_X7_meeting Γ Q) : jSS Γ Q 40 sg_X7_meeting_40 := ⟨oo_X7_meeting_40 E, oo_X7_meeting_41 E, oo_X7_meeting_44 E, oo_X7_meeting_45 E, oo_X7_meeting_48 E, oo_X7_meeting_49 E, oo_X7_meeting_50 E, trivial⟩
theorem ok_X7_meeting_53 {Γ : jΓ} {Q : jPost} (E : E_X7_meeting Γ Q) : jSS Γ Q 53 sg_X7_meeting_53 := ⟨oo_X7_meeting_53 E, oo_X7_meeting_54 E, oo_X7_meeting_55 E, oo_X7_meeting_58 E, oo_X7_meeting_59 E, oo_X7_meeting_62 E, oo_X7_meeting_63 E, oo_X7_meeting_64 E, trivial⟩
theorem ok_X7_meeting_67 {Γ : jΓ} {Q : jPost} (E : E_X7_meeting Γ Q) : jSS Γ Q 67 sg_X7_meeting_67 := ⟨oo_X7_meeting_67 E, oo_X7_meeting_68 E, oo_X7_meeting_69 E, oo_X7_meeting_72 E, oo_X7_meeting_73 E, oo_X7_meeting_76 E, oo_X7_meeting_77 E, oo_X7_meeting_78 E, trivial⟩
theorem ok_X7_meeting_81 {Γ : jΓ} {Q : jPost} (E : E_X7_meeting Γ Q) : jSS Γ Q 81 sg_X7_meeting_81 := ⟨oo_X7_meeting_81 E, oo_X7_meeting_82 E, oo_X7_meeting_85 E, oo_X7_meeting_86 E, oo_X7_meeting_87 E, trivial⟩
theorem ok_X7_meeting_87 {Γ : jΓ} {Q : jPost} (E : E_X7_meeting Γ Q) : jSS Γ Q 87 sg_X7_meeting_87 := ⟨oo_X7_meeting_87 E, trivial⟩
theorem okc_X7_meeting {Γ : jΓ} {Q : jPost} (E : E_X7_meeting Γ Q) (t : Nat) : jSS Γ Q t (cd_X7_meeting t) := by
  unfold cd_X7_meeting
  split
  · exact ok_X7_meeting_18 E
  · exact ok_X7_meeting_37 E
  · exact ok_X7_meeting_40 E
  · exact ok_X7_meeting_53 E
  · exact ok_X7_meeting_67 E
  · exact ok_X7_meeting_81 E
  · exact ok_X7_meeting_87 E
  · trivial
theorem m_X7_meeting_of (l : Launch) (hv : ∀ (G : jGt) (Q : jPost) (vs : List Value) (K : List jK) (h : jM), jHd cd_X7_meeting G Q sg_X7_meeting_0 0 → jHd cd_X7_meeting G Q sg_X7_meeting_20 20 → T_X7_meeting vs K h Q → (lg_sl vs).length ≤ 3 ∧ G 0 (jinit vs 3) [] K h 0 0) : jHolds vwCl l yX7_meeting wsX7_meeting 1 22 0 0 T_X7_meeting := by
  refine jMet (cc := cX7_meeting) (maxL := 3) (rt := (some .int)) (by decide +kernel) rfl (fun Γ Q vs K h hl hn hcl C hR hT => hv (jG Γ) Q vs K h ?_ ?_ hT)
  · exact fun n L st K h ce sl => jwp_ok (okc_X7_meeting ⟨hn, hcl, C, hR⟩) n sg_X7_meeting_0 0 (ok_X7_meeting_0 ⟨hn, hcl, C, hR⟩) L st K h ce sl
  · exact fun n L st K h ce sl => jwp_ok (okc_X7_meeting ⟨hn, hcl, C, hR⟩) n sg_X7_meeting_20 20 (ok_X7_meeting_20 ⟨hn, hcl, C, hR⟩) L st K h ce sl
set_option maxHeartbeats 4000000 in
set_option maxRecDepth 100000 in
theorem v_X7_meeting {G : jGt} {Q : jPost} {K : List jK} {h : jM} {i : Int32} {w : Int32} (hT : jXM K ∧ 0 ≤ (h 37 14).toInt ∧ (¬ (0 ≤ i ∧ i ≤ (if h 37 14 < 60 then h 37 14 else 60) - 1) → Q (some (.int (-1000001))) K h) ∧ (0 ≤ i ∧ i ≤ (if h 37 14 < 60 then h 37 14 else 60) - 1 → Q (some (.int (if w.toInt = 0 then h 47 i.toNatClampNeg else if w.toInt = 1 then h 48 i.toNatClampNeg else if w.toInt = 2 then h 49 i.toNatClampNeg else if w.toInt = 3 then h 50 i.toNatClampNeg else -1000001))) K h)) (H0 : jHd cd_X7_meeting G Q sg_X7_meeting_0 0) (H20 : jHd cd_X7_meeting G Q sg_X7_meeting_20 20) : G 0 [some (.ref 37), some (.int i), some (.int w)] [] K h 0 0 := by
  obtain ⟨hM, ht0, hT0, hT1⟩ := hT
  have ek : ∀ P : Int32 → Prop, (60 ≤ h 37 14 → P 60) → (¬ 60 ≤ h 37 14 → P (h 37 14)) → P (if h 37 14 < 60 then h 37 14 else 60) := fun P q1 q2 => by
    by_cases c : h 37 14 < 60
    · rw [if_pos c]; exact q2 (Int32.not_le.mpr c)
    · rw [if_neg c]; exact q1 (Int32.not_lt.mp c)
  have hmain : ∀ m : Int32, m = (if h 37 14 < 60 then h 37 14 else 60) → G 20 [some (.ref 37), some (.int i), some (.int w)] [.int m, .int 0, .int i] K h 0 0 := by
    intro m hm
    rw [← hm] at hT0 hT1
    refine H20 80 _ _ _ _ _ _ ?_
    by_cases c1 : 0 ≤ i ∧ i ≤ m - 1
    · have hT1 := hT1 c1
      have e1 : (0 : Int) ≤ i.toInt := le_of_lit c1.1
      have e2 : i.toInt ≤ (m - 1).toInt := le_of_lit c1.2
      have e4 : 0 ≤ m.toInt ∧ m.toInt ≤ 60 := by
        rw [hm]
        by_cases c : h 37 14 < 60
        · rw [if_pos c]
          rw [Int32.lt_iff_toInt_lt] at c
          have c' : (h 37 14).toInt < (60 : Int) := c
          omega
        · rw [if_neg c]; decide
      have e3 : (m - 1).toInt = m.toInt - 1 := ti_sub (by show _ ≤ _ - (1 : Int); omega) (by show _ - (1 : Int) < _; omega)
      have hv : vp_in i 60 := vp_in_iff.mpr ⟨e1, by omega⟩
      by_cases c2 : 0 ≤ w ∧ w ≤ 3
      · have d1 : (0 : Int) ≤ w.toInt := le_of_lit c2.1
        have d2 : w.toInt ≤ (3 : Int) := le_of_lit c2.2
        simp only [sg_X7_meeting_0, sg_X7_meeting_18, sg_X7_meeting_20, sg_X7_meeting_37, sg_X7_meeting_40, sg_X7_meeting_53, sg_X7_meeting_67, sg_X7_meeting_81, sg_X7_meeting_87, cd_X7_meeting, jwp, o_ic, o_lc, o_iload, o_lload, o_aload, o_istore, o_lstore, o_astore, o_iinc, o_pop, o_dup, o_dup2, o_iadd, o_isub, o_imul, o_iand, o_ior, o_ishl, o_ladd, o_lmul, o_land, o_lor, o_idiv, o_irem, o_ineg, o_i2l, o_l2i, o_i2b, o_i2s, o_lushr, o_lshr, o_lshl, o_lcmp, o_ifeq, o_ifne, o_iflt, o_ifge, o_ifgt, o_ifle, o_iceq, o_icne, o_iclt, o_icge, o_icgt, o_icle, o_goto, o_tsw, jsw, o_lsw, jlk, o_getf, o_putf, o_putz, o_iald, o_zald, o_iast, o_zast, o_aald, o_alen, o_gets, o_zld, o_zlen, o_cpy, o_call, o_callV, o_ireti, o_iretz, o_lret, o_vret, jg, js, jkp, jkill, jsp, jcs, jfw, jov, Value.category, Option.toList_some, Option.toList_none, List.nil_append, List.cons_append, List.append_nil, Nat.reduceAdd, true_and, and_true, jb0, jb01, jb1, jem, true_or, or_true, Classical.not_not, forall_const, List.length_cons, List.length_nil, Nat.reduceLeDiff, Nat.zero_le, Nat.reduceLT, and_self, not_true_eq_false, not_false_eq_true, false_imp_iff, true_imp_iff, implies_true, and_false, false_and, or_false, false_or, hM, km_37_0 hM, km_37_1 hM, km_37_2 hM, km_37_3 hM, km_37_4 hM, km_37_5 hM, km_37_6 hM, km_37_7 hM, km_37_8 hM, km_37_9 hM, km_37_10 hM, km_37_11 hM, km_37_12 hM, km_37_13 hM, km_37_14 hM, km_37_15 hM, km_37_16 hM, km_37_17 hM, km_37_18 hM, km_37_19 hM, km_37_20 hM, km_37_21 hM, km_37_22 hM, km_37_23 hM, km_37_24 hM, km_37_25 hM, km_37_26 hM, km_37_27 hM, km_37_28 hM, km_37_29 hM, km_37_30 hM, km_37_31 hM, km_37_32 hM, kmo_37 hM, kma_38 hM, kma_39 hM, kma_40 hM, kma_41 hM, kma_42 hM, kma_43 hM, kma_44 hM, kma_45 hM, kma_46 hM, kma_47 hM, kma_48 hM, kma_49 hM, kma_50 hM, kma_52 hM, kma_53 hM, kma_54 hM, kma_55 hM, kma_56 hM, kma_51 hM, T_X7_in, c1, c2, hv]
        refine ⟨fun c => ⟨fun c3 => ⟨fun c4 => ?_, fun c4 => ?_⟩, fun c3 => ?_⟩, fun c => ?_⟩
        · rw [if_neg (i0 c), if_neg (i1 c3), if_neg (i2 c4)] at hT1
          have n0 := i0 c; have n1 := i1 c3; have n2 := i2 c4
          rw [if_pos (by omega)] at hT1; exact hT1
        · rw [if_neg (i0 c), if_neg (i1 c3), if_pos (by rw [c4]; rfl)] at hT1; exact hT1
        · rw [if_neg (i0 c), if_pos (by rw [c3]; rfl)] at hT1; exact hT1
        · rw [if_pos (by rw [c]; rfl)] at hT1; exact hT1
      · simp only [sg_X7_meeting_0, sg_X7_meeting_18, sg_X7_meeting_20, sg_X7_meeting_37, sg_X7_meeting_40, sg_X7_meeting_53, sg_X7_meeting_67, sg_X7_meeting_81, sg_X7_meeting_87, cd_X7_meeting, jwp, o_ic, o_lc, o_iload, o_lload, o_aload, o_istore, o_lstore, o_astore, o_iinc, o_pop, o_dup, o_dup2, o_iadd, o_isub, o_imul, o_iand, o_ior, o_ishl, o_ladd, o_lmul, o_land, o_lor, o_idiv, o_irem, o_ineg, o_i2l, o_l2i, o_i2b, o_i2s, o_lushr, o_lshr, o_lshl, o_lcmp, o_ifeq, o_ifne, o_iflt, o_ifge, o_ifgt, o_ifle, o_iceq, o_icne, o_iclt, o_icge, o_icgt, o_icle, o_goto, o_tsw, jsw, o_lsw, jlk, o_getf, o_putf, o_putz, o_iald, o_zald, o_iast, o_zast, o_aald, o_alen, o_gets, o_zld, o_zlen, o_cpy, o_call, o_callV, o_ireti, o_iretz, o_lret, o_vret, jg, js, jkp, jkill, jsp, jcs, jfw, jov, Value.category, Option.toList_some, Option.toList_none, List.nil_append, List.cons_append, List.append_nil, Nat.reduceAdd, true_and, and_true, jb0, jb01, jb1, jem, true_or, or_true, Classical.not_not, forall_const, List.length_cons, List.length_nil, Nat.reduceLeDiff, Nat.zero_le, Nat.reduceLT, and_self, not_true_eq_false, not_false_eq_true, false_imp_iff, true_imp_iff, implies_true, and_false, false_and, or_false, false_or, hM, km_37_0 hM, km_37_1 hM, km_37_2 hM, km_37_3 hM, km_37_4 hM, km_37_5 hM, km_37_6 hM, km_37_7 hM, km_37_8 hM, km_37_9 hM, km_37_10 hM, km_37_11 hM, km_37_12 hM, km_37_13 hM, km_37_14 hM, km_37_15 hM, km_37_16 hM, km_37_17 hM, km_37_18 hM, km_37_19 hM, km_37_20 hM, km_37_21 hM, km_37_22 hM, km_37_23 hM, km_37_24 hM, km_37_25 hM, km_37_26 hM, km_37_27 hM, km_37_28 hM, km_37_29 hM, km_37_30 hM, km_37_31 hM, km_37_32 hM, kmo_37 hM, kma_38 hM, kma_39 hM, kma_40 hM, kma_41 hM, kma_42 hM, kma_43 hM, kma_44 hM, kma_45 hM, kma_46 hM, kma_47 hM, kma_48 hM, kma_49 hM, kma_50 hM, kma_52 hM, kma_53 hM, kma_54 hM, kma_55 hM, kma_56 hM, kma_51 hM, T_X7_in, c1, c2, hv]
        have d : ¬ (0 ≤ w.toInt ∧ w.toInt ≤ 3) := fun z => c2 ⟨by rw [Int32.le_iff_toInt_le]; exact z.1, by rw [Int32.le_iff_toInt_le]; exact z.2⟩
        rw [if_neg (by omega), if_neg (by omega), if_neg (by omega), if_neg (by omega)] at hT1
        exact hT1
    · have hT0 := hT0 c1
      simp only [sg_X7_meeting_0, sg_X7_meeting_18, sg_X7_meeting_20, sg_X7_meeting_37, sg_X7_meeting_40, sg_X7_meeting_53, sg_X7_meeting_67, sg_X7_meeting_81, sg_X7_meeting_87, cd_X7_meeting, jwp, o_ic, o_lc, o_iload, o_lload, o_aload, o_istore, o_lstore, o_astore, o_iinc, o_pop, o_dup, o_dup2, o_iadd, o_isub, o_imul, o_iand, o_ior, o_ishl, o_ladd, o_lmul, o_land, o_lor, o_idiv, o_irem, o_ineg, o_i2l, o_l2i, o_i2b, o_i2s, o_lushr, o_lshr, o_lshl, o_lcmp, o_ifeq, o_ifne, o_iflt, o_ifge, o_ifgt, o_ifle, o_iceq, o_icne, o_iclt, o_icge, o_icgt, o_icle, o_goto, o_tsw, jsw, o_lsw, jlk, o_getf, o_putf, o_putz, o_iald, o_zald, o_iast, o_zast, o_aald, o_alen, o_gets, o_zld, o_zlen, o_cpy, o_call, o_callV, o_ireti, o_iretz, o_lret, o_vret, jg, js, jkp, jkill, jsp, jcs, jfw, jov, Value.category, Option.toList_some, Option.toList_none, List.nil_append, List.cons_append, List.append_nil, Nat.reduceAdd, true_and, and_true, jb0, jb01, jb1, jem, true_or, or_true, Classical.not_not, forall_const, List.length_cons, List.length_nil, Nat.reduceLeDiff, Nat.zero_le, Nat.reduceLT, and_self, not_true_eq_false, not_false_eq_true, false_imp_iff, true_imp_iff, implies_true, and_false, false_and, or_false, false_or, hM, km_37_0 hM, km_37_1 hM, km_37_2 hM, km_37_3 hM, km_37_4 hM, km_37_5 hM, km_37_6 hM, km_37_7 hM, km_37_8 hM, km_37_9 hM, km_37_10 hM, km_37_11 hM, km_37_12 hM, km_37_13 hM, km_37_14 hM, km_37_15 hM, km_37_16 hM, km_37_17 hM, km_37_18 hM, km_37_19 hM, km_37_20 hM, km_37_21 hM, km_37_22 hM, km_37_23 hM, km_37_24 hM, km_37_25 hM, km_37_26 hM, km_37_27 hM, km_37_28 hM, km_37_29 hM, km_37_30 hM, km_37_31 hM, km_37_32 hM, kmo_37 hM, kma_38 hM, kma_39 hM, kma_40 hM, kma_41 hM, kma_42 hM, kma_43 hM, kma_44 hM, kma_45 hM, kma_46 hM, kma_47 hM, kma_48 hM, kma_49 hM, kma_50 hM, kma_52 hM, kma_53 hM, kma_54 hM, kma_55 hM, kma_56 hM, kma_51 hM, T_X7_in, c1]
      exact hT0
  refine H0 80 _ _ _ _ _ _ ?_
  simp only [sg_X7_meeting_0, sg_X7_meeting_18, sg_X7_meeting_20, sg_X7_meeting_37, sg_X7_meeting_40, sg_X7_meeting_53, sg_X7_meeting_67, sg_X7_meeting_81, sg_X7_meeting_87, cd_X7_meeting, jwp, o_ic, o_lc, o_iload, o_lload, o_aload, o_istore, o_lstore, o_astore, o_iinc, o_pop, o_dup, o_dup2, o_iadd, o_isub, o_imul, o_iand, o_ior, o_ishl, o_ladd, o_lmul, o_land, o_lor, o_idiv, o_irem, o_ineg, o_i2l, o_l2i, o_i2b, o_i2s, o_lushr, o_lshr, o_lshl, o_lcmp, o_ifeq, o_ifne, o_iflt, o_ifge, o_ifgt, o_ifle, o_iceq, o_icne, o_iclt, o_icge, o_icgt, o_icle, o_goto, o_tsw, jsw, o_lsw, jlk, o_getf, o_putf, o_putz, o_iald, o_zald, o_iast, o_zast, o_aald, o_alen, o_gets, o_zld, o_zlen, o_cpy, o_call, o_callV, o_ireti, o_iretz, o_lret, o_vret, jg, js, jkp, jkill, jsp, jcs, jfw, jov, Value.category, Option.toList_some, Option.toList_none, List.nil_append, List.cons_append, List.append_nil, Nat.reduceAdd, true_and, and_true, jb0, jb01, jb1, jem, true_or, or_true, Classical.not_not, forall_const, List.length_cons, List.length_nil, Nat.reduceLeDiff, Nat.zero_le, Nat.reduceLT, and_self, not_true_eq_false, not_false_eq_true, false_imp_iff, true_imp_iff, implies_true, and_false, false_and, or_false, false_or, hM, km_37_0 hM, km_37_1 hM, km_37_2 hM, km_37_3 hM, km_37_4 hM, km_37_5 hM, km_37_6 hM, km_37_7 hM, km_37_8 hM, km_37_9 hM, km_37_10 hM, km_37_11 hM, km_37_12 hM, km_37_13 hM, km_37_14 hM, km_37_15 hM, km_37_16 hM, km_37_17 hM, km_37_18 hM, km_37_19 hM, km_37_20 hM, km_37_21 hM, km_37_22 hM, km_37_23 hM, km_37_24 hM, km_37_25 hM, km_37_26 hM, km_37_27 hM, km_37_28 hM, km_37_29 hM, km_37_30 hM, km_37_31 hM, km_37_32 hM, kmo_37 hM, kma_38 hM, kma_39 hM, kma_40 hM, kma_41 hM, kma_42 hM, kma_43 hM, kma_44 hM, kma_45 hM, kma_46 hM, kma_47 hM, kma_48 hM, kma_49 hM, kma_50 hM, kma_52 hM, kma_53 hM, kma_54 hM, kma_55 hM, kma_56 hM, kma_51 hM]
  refine ⟨fun c => hmain _ (by rw [if_neg (Int32.not_lt.mpr c)]), fun c => hmain _ (by rw [if_pos (Int32.not_le.mp c)])⟩
theorem m_X7_meeting (l : Launch) : jHolds vwCl l yX7_meeting wsX7_meeting 1 22 0 0 T_X7_meeting := by
  refine m_X7_meeting_of l (fun G Q vs K h H0 H20 hT => ?_)
  unfold T_X7_meeting at hT
  split at hT
  · obtain ⟨rfl, hT⟩ := hT
    exact ⟨Nat.le_of_ble_eq_true rfl, v_X7_meeting hT H0 H20⟩
  · exact hT.elim
