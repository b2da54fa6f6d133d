/-! ===== leaves ===== -/
/-- a cell of the floor -/
def onF (x y : Int32) : Prop := (-120 ≤ x ∧ x ≤ 119) ∧ (-120 ≤ y ∧ y ≤ 119)
def jb (p : Prop) [Decidable p] : Int32 := if p then 1 else 0

/-! X6_isWithin -/
def T_X6_isWithin : jT := fun vs K h Q => match vs with
  | [.int v, .int lo, .int hi] => (Q (some (.int (if lo ≤ v ∧ v ≤ hi then 1 else 0))) K h)
  | _ => False
def sg_X6_isWithin_0 : jS := [(o_iload 0, 1), (o_iload 1, 1), (o_iclt 14, 3), (o_iload 0, 1), (o_iload 2, 1), (o_icgt 14, 3), (o_ic (1), 1), (o_goto 15, 3)]
def sg_X6_isWithin_14 : jS := [(o_ic (0), 1), (o_iretz, 1)]
def sg_X6_isWithin_15 : jS := [(o_iretz, 1)]
def cd_X6_isWithin : Nat → jS := fun t => match t with
  | 14 => sg_X6_isWithin_14
  | 15 => sg_X6_isWithin_15
  | _ => []
def E_X6_isWithin (Γ : jΓ) (Q : jPost) : Prop := Γ.2.2.2.2.2.2.2.2.2.2.1 = 3 ∧ Γ.2.2.2.2.2.2.2.2.2.2.2.1 = vwCl ∧ jC Γ cX6_isWithin RX6 "isWithin" (some .boolean) wsX6_isWithin 0 0 0 0 ∧ jR Γ Q 0 0
theorem oo_X6_isWithin_0 {Γ : jΓ} {Q : jPost} (E : E_X6_isWithin Γ Q) : jSA Γ Q 0 (o_iload 0) 1 := so_iload_n E.2.2.1 rfl dX6_isWithin_0
theorem oo_X6_isWithin_1 {Γ : jΓ} {Q : jPost} (E : E_X6_isWithin Γ Q) : jSA Γ Q 1 (o_iload 1) 1 := so_iload_n E.2.2.1 rfl dX6_isWithin_1
theorem oo_X6_isWithin_2 {Γ : jΓ} {Q : jPost} (E : E_X6_isWithin Γ Q) : jSA Γ Q 2 (o_iclt 14) 3 := so_iclt E.2.2.1 (by decide) dX6_isWithin_2
theorem oo_X6_isWithin_5 {Γ : jΓ} {Q : jPost} (E : E_X6_isWithin Γ Q) : jSA Γ Q 5 (o_iload 0) 1 := so_iload_n E.2.2.1 rfl dX6_isWithin_5
theorem oo_X6_isWithin_6 {Γ : jΓ} {Q : jPost} (E : E_X6_isWithin Γ Q) : jSA Γ Q 6 (o_iload 2) 1 := so_iload_n E.2.2.1 rfl dX6_isWithin_6
theorem oo_X6_isWithin_7 {Γ : jΓ} {Q : jPost} (E : E_X6_isWithin Γ Q) : jSA Γ Q 7 (o_icgt 14) 3 := so_icgt E.2.2.1 (by decide) dX6_isWithin_7
theorem oo_X6_isWithin_10 {Γ : jΓ} {Q : jPost} (E : E_X6_isWithin Γ Q) : jSA Γ Q 10 (o_ic (1)) 1 := so_iconst E.2.2.1 rfl dX6_isWithin_10
theorem oo_X6_isWithin_11 {Γ : jΓ} {Q : jPost} (E : E_X6_isWithin Γ Q) : jSA Γ Q 11 (o_goto 15) 3 := so_goto E.2.2.1 (by decide) dX6_isWithin_11
theorem oo_X6_isWithin_14 {Γ : jΓ} {Q : jPost} (E : E_X6_isWithin Γ Q) : jSA Γ Q 14 (o_ic (0)) 1 := so_iconst E.2.2.1 rfl dX6_isWithin_14
theorem oo_X6_isWithin_15 {Γ : jΓ} {Q : jPost} (E : E_X6_isWithin Γ Q) : jSA Γ Q 15 (o_iretz) 1 := so_iretz E.2.2.1 E.2.2.2 dX6_isWithin_15
theorem ok_X6_isWithin_0 {Γ : jΓ} {Q : jPost} (E : E_X6_isWithin Γ Q) : jSS Γ Q 0 sg_X6_isWithin_0 := ⟨oo_X6_isWithin_0 E, oo_X6_isWithin_1 E, oo_X6_isWithin_2 E, oo_X6_isWithin_5 E, oo_X6_isWithin_6 E, oo_X6_isWithin_7 E, oo_X6_isWithin_10 E, oo_X6_isWithin_11 E, trivial⟩
theorem ok_X6_isWithin_14 {Γ : jΓ} {Q : jPost} (E : E_X6_isWithin Γ Q) : jSS Γ Q 14 sg_X6_isWithin_14 := ⟨oo_X6_isWithin_14 E, oo_X6_isWithin_15 E, trivial⟩
theorem ok_X6_isWithin_15 {Γ : jΓ} {Q : jPost} (E : E_X6_isWithin Γ Q) : jSS Γ Q 15 sg_X6_isWithin_15 := ⟨oo_X6_isWithin_15 E, trivial⟩
theorem okc_X6_isWithin {Γ : jΓ} {Q : jPost} (E : E_X6_isWithin Γ Q) (t : Nat) : jSS Γ Q t (cd_X6_isWithin t) := by
  unfold cd_X6_isWithin
  split
  · exact ok_X6_isWithin_14 E
  · exact ok_X6_isWithin_15 E
  · trivial
theorem m_X6_isWithin_of (l : Launch) (hv : ∀ (G : jGt) (Q : jPost) (vs : List Value) (K : List jK) (h : jM), jHd cd_X6_isWithin G Q sg_X6_isWithin_0 0 → T_X6_isWithin vs K h Q → (lg_sl vs).length ≤ 3 ∧ G 0 (jinit vs 3) [] K h 0 0) : jHolds vwCl l yX6_isWithin wsX6_isWithin 0 0 0 0 T_X6_isWithin := by
  refine jMet (cc := cX6_isWithin) (maxL := 3) (rt := (some .boolean)) (by decide +kernel) rfl (fun Γ Q vs K h hl hn hcl C hR hT => hv (jG Γ) Q vs K h ?_ hT)
  · exact fun n L st K h ce sl => jwp_ok (okc_X6_isWithin ⟨hn, hcl, C, hR⟩) n sg_X6_isWithin_0 0 (ok_X6_isWithin_0 ⟨hn, hcl, C, hR⟩) L st K h ce sl
set_option maxHeartbeats 4000000 in
set_option maxRecDepth 100000 in
theorem v_X6_isWithin {G : jGt} {Q : jPost} {K : List jK} {h : jM} {v : Int32} {lo : Int32} {hi : Int32} (hT : Q (some (.int (if lo ≤ v ∧ v ≤ hi then 1 else 0))) K h) (H0 : jHd cd_X6_isWithin G Q sg_X6_isWithin_0 0) : G 0 [some (.int v), some (.int lo), some (.int hi)] [] K h 0 0 := by
  refine H0 20 _ _ _ _ _ _ ?_
  simp only [sg_X6_isWithin_0, sg_X6_isWithin_14, sg_X6_isWithin_15, cd_X6_isWithin, jwp, o_ic, o_lc, o_iload, o_lload, o_aload, o_istore, o_lstore, o_astore, o_iinc, o_pop, o_dup, o_dup2, o_iadd, o_isub, o_imul, o_iand, o_ior, o_ishl, o_ladd, o_lmul, o_land, o_lor, o_idiv, o_irem, o_ineg, o_i2l, o_l2i, o_i2b, o_i2s, o_lushr, o_lshr, o_lshl, o_lcmp, o_ifeq, o_ifne, o_iflt, o_ifge, o_ifgt, o_ifle, o_iceq, o_icne, o_iclt, o_icge, o_icgt, o_icle, o_goto, o_tsw, jsw, o_lsw, jlk, o_getf, o_putf, o_putz, o_iald, o_zald, o_iast, o_zast, o_aald, o_alen, o_gets, o_zld, o_zlen, o_cpy, o_call, o_callV, o_ireti, o_iretz, o_lret, o_vret, jg, js, jkp, jkill, jsp, jcs, jfw, jov, Value.category, Option.toList_some, Option.toList_none, List.nil_append, List.cons_append, List.append_nil, Nat.reduceAdd, true_and, and_true]
  refine ⟨fun c1 => ?_, fun c1 => ⟨fun c2 => ?_, fun c2 => ?_⟩⟩
  · rw [if_neg (fun q => by have := Int32.not_lt.mpr q.1; exact this c1)] at hT
    exact ⟨Or.inl rfl, hT⟩
  · rw [if_neg (fun q => by have := Int32.not_lt.mpr q.2; exact this c2)] at hT
    exact ⟨Or.inl rfl, hT⟩
  · rw [if_pos ⟨Int32.not_lt.mp c1, Int32.not_lt.mp c2⟩] at hT
    exact ⟨Or.inr rfl, hT⟩
theorem m_X6_isWithin (l : Launch) : jHolds vwCl l yX6_isWithin wsX6_isWithin 0 0 0 0 T_X6_isWithin := by
  refine m_X6_isWithin_of l (fun G Q vs K h H0 hT => ?_)
  unfold T_X6_isWithin at hT
  split at hT
  · skip
    exact ⟨by show _ ≤ 3; decide, v_X6_isWithin hT H0⟩
  · exact hT.elim
