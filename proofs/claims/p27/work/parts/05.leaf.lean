/-! ===== leaves ===== -/
noncomputable def jb (p : Prop) : Int32 := @ite Int32 p (Classical.propDecidable p) 1 0
theorem jb_pos {p : Prop} (h : p) : jb p = 1 := if_pos h
theorem jb_neg {p : Prop} (h : ¬ p) : jb p = 0 := if_neg h
theorem jb0 (p : Prop) : (jb p = 0) = ¬ p := by
  by_cases h : p
  · rw [jb_pos h]; simp [h]
  · rw [jb_neg h]; simp [h]
theorem jb1 (p : Prop) : (jb p = 1) = p := by
  by_cases h : p
  · rw [jb_pos h]; simp [h]
  · rw [jb_neg h]; simp [h]
theorem jb01 (p : Prop) : (jb p = 0 ∨ jb p = 1) = True := by
  by_cases h : p
  · rw [jb_pos h]; simp
  · rw [jb_neg h]; simp
theorem jem (p : Prop) : (¬ p ∨ p) = True := by
  by_cases h : p <;> simp [h]
/-- a cell of the floor -/
def onF (x y : Int32) : Prop := (-120 ≤ x ∧ x ≤ 119) ∧ (-120 ≤ y ∧ y ≤ 119)
theorem upr_upr (h : jM) (a : Nat) (f g : Nat → Int32) : upr (upr h a f) a g = upr h a g := by
  funext b; by_cases hb : b = a <;> simp [upr, hb]
theorem upr_self (h : jM) (a : Nat) : upr h a (h a) = h := by
  funext b; by_cases hb : b = a <;> simp [upr, hb]
def jfill (N : Nat) (v : Int32) (f : Nat → Int32) : Nat → Int32 := fun k => if k < N then v else f k
theorem jfill_0 (v : Int32) (f : Nat → Int32) : jfill 0 v f = f := by funext k; simp [jfill]
theorem jfill_s (i : Nat) (v : Int32) (f : Nat → Int32) : upd (jfill i v f) i v = jfill (i + 1) v f := by
  funext k
  simp only [upd, jfill]
  by_cases h1 : k = i
  · subst h1; simp
  · by_cases h2 : k < i
    · have : k < i + 1 := by omega
      simp [h1, h2, this]
    · have : ¬ k < i + 1 := by omega
      simp [h1, h2, this]

/-! J7_fill_53178 -/
def T_J7_fill_53178 : jT := fun vs K h Q => match vs with
  | [.ref a, .int v] => (match jln K a 0 with | some N => N < 2147483648 ∧ Q none K (upr h a (jfill N v (h a))) | none => False)
  | _ => False
def sg_J7_fill_53178_0 : jS := [(o_ic (0), 1), (o_istore 2, 1), (o_aload 0, 1), (o_alen 0, 1), (o_istore 3, 1)]
def sg_J7_fill_53178_5 : jS := [(o_iload 2, 1), (o_iload 3, 1), (o_icge 20, 3), (o_aload 0, 1), (o_iload 2, 1), (o_iload 1, 1), (o_iast, 1), (o_iinc 2 (1), 3), (o_goto 5, 3)]
def sg_J7_fill_53178_20 : jS := [(o_vret, 1)]
def cd_J7_fill_53178 : Nat → jS := fun t => match t with
  | 20 => sg_J7_fill_53178_20
  | _ => []
def E_J7_fill_53178 (Γ : jΓ) (Q : jPost) : Prop := Γ.2.2.2.2.2.2.2.2.2.2.1 = 4 ∧ Γ.2.2.2.2.2.2.2.2.2.2.2.1 = vwCl ∧ jC Γ cJ7_fill_53178 RJ7 "fill" none wsJ7_fill_53178 0 0 0 0 ∧ jR Γ Q 0 0
theorem oo_J7_fill_53178_0 {Γ : jΓ} {Q : jPost} (E : E_J7_fill_53178 Γ Q) : jSA Γ Q 0 (o_ic (0)) 1 := so_iconst E.2.2.1 rfl dJ7_fill_53178_0
theorem oo_J7_fill_53178_1 {Γ : jΓ} {Q : jPost} (E : E_J7_fill_53178 Γ Q) : jSA Γ Q 1 (o_istore 2) 1 := so_istore_n E.2.2.1 rfl (by rw [E.1]; decide) dJ7_fill_53178_1
theorem oo_J7_fill_53178_2 {Γ : jΓ} {Q : jPost} (E : E_J7_fill_53178 Γ Q) : jSA Γ Q 2 (o_aload 0) 1 := so_aload_n E.2.2.1 rfl dJ7_fill_53178_2
theorem oo_J7_fill_53178_3 {Γ : jΓ} {Q : jPost} (E : E_J7_fill_53178 Γ Q) : jSA Γ Q 3 (o_alen 0) 1 := so_alen0 E.2.2.1 dJ7_fill_53178_3
theorem oo_J7_fill_53178_4 {Γ : jΓ} {Q : jPost} (E : E_J7_fill_53178 Γ Q) : jSA Γ Q 4 (o_istore 3) 1 := so_istore_n E.2.2.1 rfl (by rw [E.1]; decide) dJ7_fill_53178_4
theorem oo_J7_fill_53178_5 {Γ : jΓ} {Q : jPost} (E : E_J7_fill_53178 Γ Q) : jSA Γ Q 5 (o_iload 2) 1 := so_iload_n E.2.2.1 rfl dJ7_fill_53178_5
theorem oo_J7_fill_53178_6 {Γ : jΓ} {Q : jPost} (E : E_J7_fill_53178 Γ Q) : jSA Γ Q 6 (o_iload 3) 1 := so_iload_n E.2.2.1 rfl dJ7_fill_53178_6
theorem oo_J7_fill_53178_7 {Γ : jΓ} {Q : jPost} (E : E_J7_fill_53178 Γ Q) : jSA Γ Q 7 (o_icge 20) 3 := so_icge E.2.2.1 (by decide) dJ7_fill_53178_7
theorem oo_J7_fill_53178_10 {Γ : jΓ} {Q : jPost} (E : E_J7_fill_53178 Γ Q) : jSA Γ Q 10 (o_aload 0) 1 := so_aload_n E.2.2.1 rfl dJ7_fill_53178_10
theorem oo_J7_fill_53178_11 {Γ : jΓ} {Q : jPost} (E : E_J7_fill_53178 Γ Q) : jSA Γ Q 11 (o_iload 2) 1 := so_iload_n E.2.2.1 rfl dJ7_fill_53178_11
theorem oo_J7_fill_53178_12 {Γ : jΓ} {Q : jPost} (E : E_J7_fill_53178 Γ Q) : jSA Γ Q 12 (o_iload 1) 1 := so_iload_n E.2.2.1 rfl dJ7_fill_53178_12
theorem oo_J7_fill_53178_13 {Γ : jΓ} {Q : jPost} (E : E_J7_fill_53178 Γ Q) : jSA Γ Q 13 (o_iast) 1 := so_iast E.2.2.1 dJ7_fill_53178_13
theorem oo_J7_fill_53178_14 {Γ : jΓ} {Q : jPost} (E : E_J7_fill_53178 Γ Q) : jSA Γ Q 14 (o_iinc 2 (1)) 3 := so_iinc E.2.2.1 rfl (by rw [E.1]; decide) dJ7_fill_53178_14
theorem oo_J7_fill_53178_17 {Γ : jΓ} {Q : jPost} (E : E_J7_fill_53178 Γ Q) : jSA Γ Q 17 (o_goto 5) 3 := so_goto E.2.2.1 (by decide) dJ7_fill_53178_17
theorem oo_J7_fill_53178_20 {Γ : jΓ} {Q : jPost} (E : E_J7_fill_53178 Γ Q) : jSA Γ Q 20 (o_vret) 1 := so_vret E.2.2.1 E.2.2.2 dJ7_fill_53178_20
theorem ok_J7_fill_53178_0 {Γ : jΓ} {Q : jPost} (E : E_J7_fill_53178 Γ Q) : jSS Γ Q 0 sg_J7_fill_53178_0 := ⟨oo_J7_fill_53178_0 E, oo_J7_fill_53178_1 E, oo_J7_fill_53178_2 E, oo_J7_fill_53178_3 E, oo_J7_fill_53178_4 E, trivial⟩
theorem ok_J7_fill_53178_5 {Γ : jΓ} {Q : jPost} (E : E_J7_fill_53178 Γ Q) : jSS Γ Q 5 sg_J7_fill_53178_5 := ⟨oo_J7_fill_53178_5 E, oo_J7_fill_53178_6 E, oo_J7_fill_53178_7 E, oo_J7_fill_53178_10 E, oo_J7_fill_53178_11 E, oo_J7_fill_53178_12 E, oo_J7_fill_53178_13 E, oo_J7_fill_53178_14 E, oo_J7_fill_53178_17 E, trivial⟩
theorem ok_J7_fill_53178_20 {Γ : jΓ} {Q : jPost} (E : E_J7_fill_53178 Γ Q) : jSS Γ Q 20 sg_J7_fill_53178_20 := ⟨oo_J7_fill_53178_20 E, trivial⟩
theorem okc_J7_fill_53178 {Γ : jΓ} {Q : jPost} (E : E_J7_fill_53178 Γ Q) (t : Nat) : jSS Γ Q t (cd_J7_fill_53178 t) := by
  unfold cd_J7_fill_53178
  split
  · exact ok_J7_fill_53178_20 E
  · trivial
theorem m_J7_fill_53178_of (l : Launch) (hv : ∀ (G : jGt) (Q : jPost) (vs : List Value) (K : List jK) (h : jM), jHd cd_J7_fill_53178 G Q sg_J7_fill_53178_0 0 → jHd cd_J7_fill_53178 G Q sg_J7_fill_53178_5 5 → T_J7_fill_53178 vs K h Q → (lg_sl vs).length ≤ 4 ∧ G 0 (jinit vs 4) [] K h 0 0) : jHolds vwCl l yJ7_fill_53178 wsJ7_fill_53178 0 0 0 0 T_J7_fill_53178 := by
  refine jMet (cc := cJ7_fill_53178) (maxL := 4) (rt := none) (by decide +kernel) rfl (fun Γ Q vs K h hl hn hcl C hR hT => hv (jG Γ) Q vs K h ?_ ?_ hT)
  · exact fun n L st K h ce sl => jwp_ok (okc_J7_fill_53178 ⟨hn, hcl, C, hR⟩) n sg_J7_fill_53178_0 0 (ok_J7_fill_53178_0 ⟨hn, hcl, C, hR⟩) L st K h ce sl
  · exact fun n L st K h ce sl => jwp_ok (okc_J7_fill_53178 ⟨hn, hcl, C, hR⟩) n sg_J7_fill_53178_5 5 (ok_J7_fill_53178_5 ⟨hn, hcl, C, hR⟩) L st K h ce sl
set_option maxHeartbeats 4000000 in
set_option maxRecDepth 100000 in
theorem v_J7_fill_53178 {G : jGt} {Q : jPost} {K : List jK} {h : jM} {a : Nat} {v : Int32} (hT : match jln K a 0 with | some N => N < 2147483648 ∧ Q none K (upr h a (jfill N v (h a))) | none => False) (H0 : jHd cd_J7_fill_53178 G Q sg_J7_fill_53178_0 0) (H5 : jHd cd_J7_fill_53178 G Q sg_J7_fill_53178_5 5) : G 0 [some (.ref a), some (.int v), none, none] [] K h 0 0 := by
  cases hN : jln K a 0 with
  | none => rw [hN] at hT; exact hT.elim
  | some N =>
    rw [hN] at hT
    obtain ⟨hlt, hT⟩ := hT
    have loop : ∀ n i, i + n = N → G 5 [some (.ref a), some (.int v), some (.int (nI i)), some (.int (nI N))] [] K (upr h a (jfill i v (h a))) 0 0 := by
      intro n
      induction n with
      | zero =>
        intro i hi
        have : i = N := by omega
        subst this
        refine H5 30 _ _ _ _ _ _ ?_
        simp only [sg_J7_fill_53178_0, sg_J7_fill_53178_5, sg_J7_fill_53178_20, cd_J7_fill_53178, jwp, o_ic, o_lc, o_iload, o_lload, o_aload, o_istore, o_lstore, o_astore, o_iinc, o_pop, o_dup, o_dup2, o_iadd, o_isub, o_imul, o_iand, o_ior, o_ishl, o_ladd, o_lmul, o_land, o_lor, o_idiv, o_irem, o_ineg, o_i2l, o_l2i, o_i2b, o_i2s, o_lushr, o_lshr, o_lshl, o_lcmp, o_ifeq, o_ifne, o_iflt, o_ifge, o_ifgt, o_ifle, o_iceq, o_icne, o_iclt, o_icge, o_icgt, o_icle, o_goto, o_tsw, jsw, o_lsw, jlk, o_getf, o_putf, o_putz, o_iald, o_zald, o_iast, o_zast, o_aald, o_alen, o_gets, o_zld, o_zlen, o_cpy, o_call, o_callV, o_ireti, o_iretz, o_lret, o_vret, jg, js, jkp, jkill, jsp, jcs, jfw, jov, Value.category, Option.toList_some, Option.toList_none, List.nil_append, List.cons_append, List.append_nil, Nat.reduceAdd, true_and, and_true, jb0, jb01, jb1, jem, true_or, or_true, Classical.not_not, forall_const, List.length_cons, List.length_nil, Nat.reduceLeDiff, Nat.zero_le, Nat.reduceLT, hN]
        exact ⟨fun _ => hT, fun c => absurd (Int32.le_refl _) c⟩
      | succ n ih =>
        intro i hi
        refine H5 30 _ _ _ _ _ _ ?_
        simp only [sg_J7_fill_53178_0, sg_J7_fill_53178_5, sg_J7_fill_53178_20, cd_J7_fill_53178, jwp, o_ic, o_lc, o_iload, o_lload, o_aload, o_istore, o_lstore, o_astore, o_iinc, o_pop, o_dup, o_dup2, o_iadd, o_isub, o_imul, o_iand, o_ior, o_ishl, o_ladd, o_lmul, o_land, o_lor, o_idiv, o_irem, o_ineg, o_i2l, o_l2i, o_i2b, o_i2s, o_lushr, o_lshr, o_lshl, o_lcmp, o_ifeq, o_ifne, o_iflt, o_ifge, o_ifgt, o_ifle, o_iceq, o_icne, o_iclt, o_icge, o_icgt, o_icle, o_goto, o_tsw, jsw, o_lsw, jlk, o_getf, o_putf, o_putz, o_iald, o_zald, o_iast, o_zast, o_aald, o_alen, o_gets, o_zld, o_zlen, o_cpy, o_call, o_callV, o_ireti, o_iretz, o_lret, o_vret, jg, js, jkp, jkill, jsp, jcs, jfw, jov, Value.category, Option.toList_some, Option.toList_none, List.nil_append, List.cons_append, List.append_nil, Nat.reduceAdd, true_and, and_true, jb0, jb01, jb1, jem, true_or, or_true, Classical.not_not, forall_const, List.length_cons, List.length_nil, Nat.reduceLeDiff, Nat.zero_le, Nat.reduceLT, hN]
        refine ⟨fun c => absurd ((nI_leI (by omega) (by omega)).mp c) (by omega), fun _ => ⟨vp_in_nI (by omega) hlt, ?_⟩⟩
        have h2 := ih (i + 1) (by omega)
        rw [nI_clamp (by omega), nI_1]
        unfold up2
        rw [upr_s, upr_upr, jfill_s]
        exact h2
    refine H0 30 _ _ _ _ _ _ ?_
    simp only [sg_J7_fill_53178_0, sg_J7_fill_53178_5, sg_J7_fill_53178_20, cd_J7_fill_53178, jwp, o_ic, o_lc, o_iload, o_lload, o_aload, o_istore, o_lstore, o_astore, o_iinc, o_pop, o_dup, o_dup2, o_iadd, o_isub, o_imul, o_iand, o_ior, o_ishl, o_ladd, o_lmul, o_land, o_lor, o_idiv, o_irem, o_ineg, o_i2l, o_l2i, o_i2b, o_i2s, o_lushr, o_lshr, o_lshl, o_lcmp, o_ifeq, o_ifne, o_iflt, o_ifge, o_ifgt, o_ifle, o_iceq, o_icne, o_iclt, o_icge, o_icgt, o_icle, o_goto, o_tsw, jsw, o_lsw, jlk, o_getf, o_putf, o_putz, o_iald, o_zald, o_iast, o_zast, o_aald, o_alen, o_gets, o_zld, o_zlen, o_cpy, o_call, o_callV, o_ireti, o_iretz, o_lret, o_vret, jg, js, jkp, jkill, jsp, jcs, jfw, jov, Value.category, Option.toList_some, Option.toList_none, List.nil_append, List.cons_append, List.append_nil, Nat.reduceAdd, true_and, and_true, jb0, jb01, jb1, jem, true_or, or_true, Classical.not_not, forall_const, List.length_cons, List.length_nil, Nat.reduceLeDiff, Nat.zero_le, Nat.reduceLT, hN]
    have h2 := loop N 0 (by omega)
    rw [jfill_0, upr_self] at h2
    exact h2
theorem m_J7_fill_53178 (l : Launch) : jHolds vwCl l yJ7_fill_53178 wsJ7_fill_53178 0 0 0 0 T_J7_fill_53178 := by
  refine m_J7_fill_53178_of l (fun G Q vs K h H0 H5 hT => ?_)
  unfold T_J7_fill_53178 at hT
  split at hT
  · skip
    exact ⟨Nat.le_of_ble_eq_true rfl, v_J7_fill_53178 hT H0 H5⟩
  · exact hT.elim

/-! X6_isWithin -/
def T_X6_isWithin : jT := fun vs K h Q => match vs with
  | [.int v, .int lo, .int hi] => (Q (some (.int (jb (lo ≤ v ∧ v ≤ hi)))) K h)
  | _ => False
def sg_X6_isWithin_0 : jS := [(o_iload 0, 1), (o_iload 1, 1), (o_iclt 14, 3), (o_iload 0, 1), (o_iload 2, 1), (o_icgt 14, 3), (o_ic (1), 1), (o_goto 15, 3)]
def sg_X6_isWithin_14 : jS := [(o_ic (0), 1), (o_iretz, 1)]
def sg_X6_isWithin_15 : jS := [(o_iretz, 1)]
def cd_X6_isWithin : Nat → jS := fun t => match t with
  | 14 => sg_X6_isWithin_14
  | 15 => sg_X6_isWithin_15
  | _ => []
def E_X6_isWithin (Γ : jΓ) (Q : jPost) : Prop := Γ.2.2.2.2.2.2.2.2.2.2.1 = 3 ∧ Γ.2.2.2.2.2.2.2.2.2.2.2.1 = vwCl ∧ jC Γ cX6_isWithin RX6 "isWithin" (some .boolean) wsX6_isWithin 0 0 0 0 ∧ jR Γ Q 0 0
theorem oo_X6_isWithin_0 {Γ : jΓ} {Q : jPost} (E : E_X6_isWithin Γ Q) : jSA Γ Q 0 (o_iload 0) 1 := so_iload_n E.2.2.1 rfl dX6_isWithin_0
theorem oo_X6_isWithin_1 {Γ : jΓ} {Q : jPost} (E : E_X6_isWithin Γ Q) : jSA Γ Q 1 (o_iload 1) 1 := so_iload_n E.2.2.1 rfl dX6_isWithin_1
theorem oo_X6_isWithin_2 {Γ : jΓ} {Q : jPost} (E : E_X6_isWithin Γ Q) : jSA Γ Q 2 (o_iclt 14) 3 := so_iclt E.2.2.1 (by decide) dX6_isWithin_2
theorem oo_X6_isWithin_5 {Γ : jΓ} {Q : jPost} (E : E_X6_isWithin Γ Q) : jSA Γ Q 5 (o_iload 0) 1 := so_iload_n E.2.2.1 rfl dX6_isWithin_5
theorem oo_X6_isWithin_6 {Γ : jΓ} {Q : jPost} (E : E_X6_isWithin Γ Q) : jSA Γ Q 6 (o_iload 2) 1 := so_iload_n E.2.2.1 rfl dX6_isWithin_6
theorem oo_X6_isWithin_7 {Γ : jΓ} {Q : jPost} (E : E_X6_isWithin Γ Q) : jSA Γ Q 7 (o_icgt 14) 3 := so_icgt E.2.2.1 (by decide) dX6_isWithin_7
theorem oo_X6_isWithin_10 {Γ : jΓ} {Q : jPost} (E : E_X6_isWithin Γ Q) : jSA Γ Q 10 (o_ic (1)) 1 := so_iconst E.2.2.1 rfl dX6_isWithin_10
theorem oo_X6_isWithin_11 {Γ : jΓ} {Q : jPost} (E : E_X6_isWithin Γ Q) : jSA Γ Q 11 (o_goto 15) 3 := so_goto E.2.2.1 (by decide) dX6_isWithin_11
theorem oo_X6_isWithin_14 {Γ : jΓ} {Q : jPost} (E : E_X6_isWithin Γ Q) : jSA Γ Q 14 (o_ic (0)) 1 := so_iconst E.2.2.1 rfl dX6_isWithin_14
theorem oo_X6_isWithin_15 {Γ : jΓ} {Q : jPost} (E : E_X6_isWithin Γ Q) : jSA Γ Q 15 (o_iretz) 1 := so_iretz E.2.2.1 E.2.2.2 dX6_isWithin_15
theorem ok_X6_isWithin_0 {Γ : jΓ} {Q : jPost} (E : E_X6_isWithin Γ Q) : jSS Γ Q 0 sg_X6_isWithin_0 := ⟨oo_X6_isWithin_0 E, oo_X6_isWithin_1 E, oo_X6_isWithin_2 E, oo_X6_isWithin_5 E, oo_X6_isWithin_6 E, oo_X6_isWithin_7 E, oo_X6_isWithin_10 E, oo_X6_isWithin_11 E, trivial⟩
theorem ok_X6_isWithin_14 {Γ : jΓ} {Q : jPost} (E : E_X6_isWithin Γ Q) : jSS Γ Q 14 sg_X6_isWithin_14 := ⟨oo_X6_isWithin_14 E, oo_X6_isWithin_15 E, trivial⟩
theorem ok_X6_isWithin_15 {Γ : jΓ} {Q : jPost} (E : E_X6_isWithin Γ Q) : jSS Γ Q 15 sg_X6_isWithin_15 := ⟨oo_X6_isWithin_15 E, trivial⟩
theorem okc_X6_isWithin {Γ : jΓ} {Q : jPost} (E : E_X6_isWithin Γ Q) (t : Nat) : jSS Γ Q t (cd_X6_isWithin t) := by
  unfold cd_X6_isWithin
  split
  · exact ok_X6_isWithin_14 E
  · exact ok_X6_isWithin_15 E
  · trivial
theorem m_X6_isWithin_of (l : Launch) (hv : ∀ (G : jGt) (Q : jPost) (vs : List Value) (K : List jK) (h : jM), jHd cd_X6_isWithin G Q sg_X6_isWithin_0 0 → T_X6_isWithin vs K h Q → (lg_sl vs).length ≤ 3 ∧ G 0 (jinit vs 3) [] K h 0 0) : jHolds vwCl l yX6_isWithin wsX6_isWithin 0 0 0 0 T_X6_isWithin := by
  refine jMet (cc := cX6_isWithin) (maxL := 3) (rt := (some .boolean)) (by decide +kernel) rfl (fun Γ Q vs K h hl hn hcl C hR hT => hv (jG Γ) Q vs K h ?_ hT)
  · exact fun n L st K h ce sl => jwp_ok (okc_X6_isWithin ⟨hn, hcl, C, hR⟩) n sg_X6_isWithin_0 0 (ok_X6_isWithin_0 ⟨hn, hcl, C, hR⟩) L st K h ce sl
set_option maxHeartbeats 4000000 in
set_option maxRecDepth 100000 in
theorem v_X6_isWithin {G : jGt} {Q : jPost} {K : List jK} {h : jM} {v : Int32} {lo : Int32} {hi : Int32} (hT : Q (some (.int (jb (lo ≤ v ∧ v ≤ hi)))) K h) (H0 : jHd cd_X6_isWithin G Q sg_X6_isWithin_0 0) : G 0 [some (.int v), some (.int lo), some (.int hi)] [] K h 0 0 := by
  refine H0 20 _ _ _ _ _ _ ?_
  simp only [sg_X6_isWithin_0, sg_X6_isWithin_14, sg_X6_isWithin_15, cd_X6_isWithin, jwp, o_ic, o_lc, o_iload, o_lload, o_aload, o_istore, o_lstore, o_astore, o_iinc, o_pop, o_dup, o_dup2, o_iadd, o_isub, o_imul, o_iand, o_ior, o_ishl, o_ladd, o_lmul, o_land, o_lor, o_idiv, o_irem, o_ineg, o_i2l, o_l2i, o_i2b, o_i2s, o_lushr, o_lshr, o_lshl, o_lcmp, o_ifeq, o_ifne, o_iflt, o_ifge, o_ifgt, o_ifle, o_iceq, o_icne, o_iclt, o_icge, o_icgt, o_icle, o_goto, o_tsw, jsw, o_lsw, jlk, o_getf, o_putf, o_putz, o_iald, o_zald, o_iast, o_zast, o_aald, o_alen, o_gets, o_zld, o_zlen, o_cpy, o_call, o_callV, o_ireti, o_iretz, o_lret, o_vret, jg, js, jkp, jkill, jsp, jcs, jfw, jov, Value.category, Option.toList_some, Option.toList_none, List.nil_append, List.cons_append, List.append_nil, Nat.reduceAdd, true_and, and_true, jb0, jb01, jb1, jem, true_or, or_true, Classical.not_not, forall_const, List.length_cons, List.length_nil, Nat.reduceLeDiff, Nat.zero_le, Nat.reduceLT]
  unfold jb at hT
  grind
theorem m_X6_isWithin (l : Launch) : jHolds vwCl l yX6_isWithin wsX6_isWithin 0 0 0 0 T_X6_isWithin := by
  refine m_X6_isWithin_of l (fun G Q vs K h H0 hT => ?_)
  unfold T_X6_isWithin at hT
  split at hT
  · skip
    exact ⟨Nat.le_of_ble_eq_true rfl, v_X6_isWithin hT H0⟩
  · exact hT.elim

/-! X0_put -/
def upAnt (h : jM) (a : Nat) (x y d r : Int32) : jM := up2 (up2 (up2 (up2 h a 0 x) a 1 y) a 2 d) a 3 r
def T_X0_put : jT := fun vs K h Q => match vs with
  | [.ref a, .int x, .int y, .int d, .int r] => (isAnt a ∧ jX K ∧ Q none K (upAnt h a x y d r))
  | _ => False
def sg_X0_put_0 : jS := [(o_aload 0, 1), (o_iload 1, 1), (o_putf 0 0, 3), (o_aload 0, 1), (o_iload 2, 1), (o_putf 0 1, 3), (o_aload 0, 1), (o_iload 3, 1), (o_putf 0 2, 3), (o_aload 0, 1), (o_iload 4, 2), (o_putf 0 3, 3), (o_vret, 1)]
def cd_X0_put : Nat → jS := fun t => match t with
  | _ => []
theorem wl_X0_put_7 : Cond.fieldLink RX0 7 (TX0 0).1 (TX0 0).2.1 (TX0 0).2.2.1 ∈ wsX0_put := by decide +kernel
theorem wl_X0_put_13 : Cond.fieldLink RX0 13 (TX0 1).1 (TX0 1).2.1 (TX0 1).2.2.1 ∈ wsX0_put := by decide +kernel
theorem wl_X0_put_16 : Cond.fieldLink RX0 16 (TX0 2).1 (TX0 2).2.1 (TX0 2).2.2.1 ∈ wsX0_put := by decide +kernel
theorem wl_X0_put_19 : Cond.fieldLink RX0 19 (TX0 3).1 (TX0 3).2.1 (TX0 3).2.2.1 ∈ wsX0_put := by decide +kernel
theorem wi_X0_put_X0 : ∀ w ∈ u_ws RX0 TX0 4, w ∈ wsX0_put := by decide +kernel
def E_X0_put (Γ : jΓ) (Q : jPost) : Prop := Γ.2.2.2.2.2.2.2.2.2.2.1 = 5 ∧ Γ.2.2.2.2.2.2.2.2.2.2.2.1 = vwCl ∧ jC Γ cX0_put RX0 "put" none wsX0_put 0 0 0 0 ∧ jR Γ Q 0 0
theorem oo_X0_put_0 {Γ : jΓ} {Q : jPost} (E : E_X0_put Γ Q) : jSA Γ Q 0 (o_aload 0) 1 := so_aload_n E.2.2.1 rfl dX0_put_0
theorem oo_X0_put_1 {Γ : jΓ} {Q : jPost} (E : E_X0_put Γ Q) : jSA Γ Q 1 (o_iload 1) 1 := so_iload_n E.2.2.1 rfl dX0_put_1
theorem oo_X0_put_2 {Γ : jΓ} {Q : jPost} (E : E_X0_put Γ Q) : jSA Γ Q 2 (o_putf 0 0) 3 := so_putf (ci := 0) E.2.2.1 tyX0 tyX0_ok nmX0 wi_X0_put_X0 (by rw [E.2.1]; rfl) 0 (by decide) wl_X0_put_7 rfl (by decide +kernel) dX0_put_2
theorem oo_X0_put_5 {Γ : jΓ} {Q : jPost} (E : E_X0_put Γ Q) : jSA Γ Q 5 (o_aload 0) 1 := so_aload_n E.2.2.1 rfl dX0_put_5
theorem oo_X0_put_6 {Γ : jΓ} {Q : jPost} (E : E_X0_put Γ Q) : jSA Γ Q 6 (o_iload 2) 1 := so_iload_n E.2.2.1 rfl dX0_put_6
theorem oo_X0_put_7 {Γ : jΓ} {Q : jPost} (E : E_X0_put Γ Q) : jSA Γ Q 7 (o_putf 0 1) 3 := so_putf (ci := 0) E.2.2.1 tyX0 tyX0_ok nmX0 wi_X0_put_X0 (by rw [E.2.1]; rfl) 1 (by decide) wl_X0_put_13 rfl (by decide +kernel) dX0_put_7
theorem oo_X0_put_10 {Γ : jΓ} {Q : jPost} (E : E_X0_put Γ Q) : jSA Γ Q 10 (o_aload 0) 1 := so_aload_n E.2.2.1 rfl dX0_put_10
theorem oo_X0_put_11 {Γ : jΓ} {Q : jPost} (E : E_X0_put Γ Q) : jSA Γ Q 11 (o_iload 3) 1 := so_iload_n E.2.2.1 rfl dX0_put_11
theorem oo_X0_put_12 {Γ : jΓ} {Q : jPost} (E : E_X0_put Γ Q) : jSA Γ Q 12 (o_putf 0 2) 3 := so_putf (ci := 0) E.2.2.1 tyX0 tyX0_ok nmX0 wi_X0_put_X0 (by rw [E.2.1]; rfl) 2 (by decide) wl_X0_put_16 rfl (by decide +kernel) dX0_put_12
theorem oo_X0_put_15 {Γ : jΓ} {Q : jPost} (E : E_X0_put Γ Q) : jSA Γ Q 15 (o_aload 0) 1 := so_aload_n E.2.2.1 rfl dX0_put_15
theorem oo_X0_put_16 {Γ : jΓ} {Q : jPost} (E : E_X0_put Γ Q) : jSA Γ Q 16 (o_iload 4) 2 := so_iload E.2.2.1 dX0_put_16
theorem oo_X0_put_18 {Γ : jΓ} {Q : jPost} (E : E_X0_put Γ Q) : jSA Γ Q 18 (o_putf 0 3) 3 := so_putf (ci := 0) E.2.2.1 tyX0 tyX0_ok nmX0 wi_X0_put_X0 (by rw [E.2.1]; rfl) 3 (by decide) wl_X0_put_19 rfl (by decide +kernel) dX0_put_18
theorem oo_X0_put_21 {Γ : jΓ} {Q : jPost} (E : E_X0_put Γ Q) : jSA Γ Q 21 (o_vret) 1 := so_vret E.2.2.1 E.2.2.2 dX0_put_21
theorem ok_X0_put_0 {Γ : jΓ} {Q : jPost} (E : E_X0_put Γ Q) : jSS Γ Q 0 sg_X0_put_0 := ⟨oo_X0_put_0 E, oo_X0_put_1 E, oo_X0_put_2 E, oo_X0_put_5 E, oo_X0_put_6 E, oo_X0_put_7 E, oo_X0_put_10 E, oo_X0_put_11 E, oo_X0_put_12 E, oo_X0_put_15 E, oo_X0_put_16 E, oo_X0_put_18 E, oo_X0_put_21 E, trivial⟩
theorem okc_X0_put {Γ : jΓ} {Q : jPost} (E : E_X0_put Γ Q) (t : Nat) : jSS Γ Q t (cd_X0_put t) := by
  unfold cd_X0_put
  trivial
theorem m_X0_put_of (l : Launch) (hv : ∀ (G : jGt) (Q : jPost) (vs : List Value) (K : List jK) (h : jM), jHd cd_X0_put G Q sg_X0_put_0 0 → T_X0_put vs K h Q → (lg_sl vs).length ≤ 5 ∧ G 0 (jinit vs 5) [] K h 0 0) : jHolds vwCl l yX0_put wsX0_put 0 0 0 0 T_X0_put := by
  refine jMet (cc := cX0_put) (maxL := 5) (rt := none) (by decide +kernel) rfl (fun Γ Q vs K h hl hn hcl C hR hT => hv (jG Γ) Q vs K h ?_ hT)
  · exact fun n L st K h ce sl => jwp_ok (okc_X0_put ⟨hn, hcl, C, hR⟩) n sg_X0_put_0 0 (ok_X0_put_0 ⟨hn, hcl, C, hR⟩) L st K h ce sl
set_option maxHeartbeats 4000000 in
set_option maxRecDepth 100000 in
theorem v_X0_put {G : jGt} {Q : jPost} {K : List jK} {h : jM} {a : Nat} {x : Int32} {y : Int32} {d : Int32} {r : Int32} (hT : isAnt a ∧ jX K ∧ Q none K (upAnt h a x y d r)) (H0 : jHd cd_X0_put G Q sg_X0_put_0 0) : G 0 [some (.ref a), some (.int x), some (.int y), some (.int d), some (.int r)] [] K h 0 0 := by
  obtain ⟨ha, hX, hT⟩ := hT
  refine H0 30 _ _ _ _ _ _ ?_
  simp only [sg_X0_put_0, cd_X0_put, jwp, o_ic, o_lc, o_iload, o_lload, o_aload, o_istore, o_lstore, o_astore, o_iinc, o_pop, o_dup, o_dup2, o_iadd, o_isub, o_imul, o_iand, o_ior, o_ishl, o_ladd, o_lmul, o_land, o_lor, o_idiv, o_irem, o_ineg, o_i2l, o_l2i, o_i2b, o_i2s, o_lushr, o_lshr, o_lshl, o_lcmp, o_ifeq, o_ifne, o_iflt, o_ifge, o_ifgt, o_ifle, o_iceq, o_icne, o_iclt, o_icge, o_icgt, o_icle, o_goto, o_tsw, jsw, o_lsw, jlk, o_getf, o_putf, o_putz, o_iald, o_zald, o_iast, o_zast, o_aald, o_alen, o_gets, o_zld, o_zlen, o_cpy, o_call, o_callV, o_ireti, o_iretz, o_lret, o_vret, jg, js, jkp, jkill, jsp, jcs, jfw, jov, Value.category, Option.toList_some, Option.toList_none, List.nil_append, List.cons_append, List.append_nil, Nat.reduceAdd, true_and, and_true, jb0, jb01, jb1, jem, true_or, or_true, Classical.not_not, forall_const, List.length_cons, List.length_nil, Nat.reduceLeDiff, Nat.zero_le, Nat.reduceLT, kxn_0 hX ha, kxn_1 hX ha, kxn_2 hX ha, kxn_3 hX ha]
  exact hT
theorem m_X0_put (l : Launch) : jHolds vwCl l yX0_put wsX0_put 0 0 0 0 T_X0_put := by
  refine m_X0_put_of l (fun G Q vs K h H0 hT => ?_)
  unfold T_X0_put at hT
  split at hT
  · skip
    exact ⟨Nat.le_of_ble_eq_true rfl, v_X0_put hT H0⟩
  · exact hT.elim



/-! X1_directions -/
/-- how many directions -/
def jdirs (h : jM) : Int32 := if h 1 0 = 1 then 6 else 4
def T_X1_directions : jT := fun vs K h Q => match vs with
  | [.ref r0] => r0 = 1 ∧ (jX K ∧ Q (some (.int (jdirs h))) K h)
  | _ => False
def sg_X1_directions_0 : jS := [(o_aload 0, 1), (o_getf 1 0, 3), (o_ic (1), 1), (o_icne 15, 3), (o_gets 2, 3), (o_zlen 2, 1), (o_goto 19, 3)]
def sg_X1_directions_15 : jS := [(o_gets 0, 3), (o_zlen 0, 1), (o_ireti, 1)]
def sg_X1_directions_19 : jS := [(o_ireti, 1)]
def cd_X1_directions : Nat → jS := fun t => match t with
  | 15 => sg_X1_directions_15
  | 19 => sg_X1_directions_19
  | _ => []
theorem wl_X1_directions_9 : Cond.fieldLink RX1 9 (TX1 0).1 (TX1 0).2.1 (TX1 0).2.2.1 ∈ wsX1_directions := by decide +kernel
theorem wi_X1_directions_X1 : ∀ w ∈ u_ws RX1 TX1 4, w ∈ wsX1_directions := by decide +kernel
def E_X1_directions (Γ : jΓ) (Q : jPost) : Prop := Γ.2.2.2.2.2.2.2.2.2.2.1 = 1 ∧ Γ.2.2.2.2.2.2.2.2.2.2.2.1 = vwCl ∧ jC Γ cX1_directions RX1 "directions" (some .int) wsX1_directions 0 0 0 0 ∧ jR Γ Q 0 0
theorem oo_X1_directions_0 {Γ : jΓ} {Q : jPost} (E : E_X1_directions Γ Q) : jSA Γ Q 0 (o_aload 0) 1 := so_aload_n E.2.2.1 rfl dX1_directions_0
theorem oo_X1_directions_1 {Γ : jΓ} {Q : jPost} (E : E_X1_directions Γ Q) : jSA Γ Q 1 (o_getf 1 0) 3 := so_getf (ci := 1) E.2.2.1 wi_X1_directions_X1 (by rw [E.2.1]; rfl) 0 (by decide) wl_X1_directions_9 dX1_directions_1
theorem oo_X1_directions_4 {Γ : jΓ} {Q : jPost} (E : E_X1_directions Γ Q) : jSA Γ Q 4 (o_ic (1)) 1 := so_iconst E.2.2.1 rfl dX1_directions_4
theorem oo_X1_directions_5 {Γ : jΓ} {Q : jPost} (E : E_X1_directions Γ Q) : jSA Γ Q 5 (o_icne 15) 3 := so_icne E.2.2.1 (by decide) dX1_directions_5
theorem oo_X1_directions_8 {Γ : jΓ} {Q : jPost} (E : E_X1_directions Γ Q) : jSA Γ Q 8 (o_gets 2) 3 := so_gets E.2.2.1 (by decide +kernel) dX1_directions_8
theorem oo_X1_directions_11 {Γ : jΓ} {Q : jPost} (E : E_X1_directions Γ Q) : jSA Γ Q 11 (o_zlen 2) 1 := so_zlen E.2.2.1 dX1_directions_11
theorem oo_X1_directions_12 {Γ : jΓ} {Q : jPost} (E : E_X1_directions Γ Q) : jSA Γ Q 12 (o_goto 19) 3 := so_goto E.2.2.1 (by decide) dX1_directions_12
theorem oo_X1_directions_15 {Γ : jΓ} {Q : jPost} (E : E_X1_directions Γ Q) : jSA Γ Q 15 (o_gets 0) 3 := so_gets E.2.2.1 (by decide +kernel) dX1_directions_15
theorem oo_X1_directions_18 {Γ : jΓ} {Q : jPost} (E : E_X1_directions Γ Q) : jSA Γ Q 18 (o_zlen 0) 1 := so_zlen E.2.2.1 dX1_directions_18
theorem oo_X1_directions_19 {Γ : jΓ} {Q : jPost} (E : E_X1_directions Γ Q) : jSA Γ Q 19 (o_ireti) 1 := so_ireti E.2.2.1 E.2.2.2 dX1_directions_19
theorem ok_X1_directions_0 {Γ : jΓ} {Q : jPost} (E : E_X1_directions Γ Q) : jSS Γ Q 0 sg_X1_directions_0 := ⟨oo_X1_directions_0 E, oo_X1_directions_1 E, oo_X1_directions_4 E, oo_X1_directions_5 E, oo_X1_directions_8 E, oo_X1_directions_11 E, oo_X1_directions_12 E, trivial⟩
theorem ok_X1_directions_15 {Γ : jΓ} {Q : jPost} (E : E_X1_directions Γ Q) : jSS Γ Q 15 sg_X1_directions_15 := ⟨oo_X1_directions_15 E, oo_X1_directions_18 E, oo_X1_directions_19 E, trivial⟩
theorem ok_X1_directions_19 {Γ : jΓ} {Q : jPost} (E : E_X1_directions Γ Q) : jSS Γ Q 19 sg_X1_directions_19 := ⟨oo_X1_directions_19 E, trivial⟩
theorem okc_X1_directions {Γ : jΓ} {Q : jPost} (E : E_X1_directions Γ Q) (t : Nat) : jSS Γ Q t (cd_X1_directions t) := by
  unfold cd_X1_directions
  split
  · exact ok_X1_directions_15 E
  · exact ok_X1_directions_19 E
  · trivial
theorem m_X1_directions_of (l : Launch) (hv : ∀ (G : jGt) (Q : jPost) (vs : List Value) (K : List jK) (h : jM), jHd cd_X1_directions G Q sg_X1_directions_0 0 → T_X1_directions vs K h Q → (lg_sl vs).length ≤ 1 ∧ G 0 (jinit vs 1) [] K h 0 0) : jHolds vwCl l yX1_directions wsX1_directions 0 0 0 0 T_X1_directions := by
  refine jMet (cc := cX1_directions) (maxL := 1) (rt := (some .int)) (by decide +kernel) rfl (fun Γ Q vs K h hl hn hcl C hR hT => hv (jG Γ) Q vs K h ?_ hT)
  · exact fun n L st K h ce sl => jwp_ok (okc_X1_directions ⟨hn, hcl, C, hR⟩) n sg_X1_directions_0 0 (ok_X1_directions_0 ⟨hn, hcl, C, hR⟩) L st K h ce sl
set_option maxHeartbeats 4000000 in
set_option maxRecDepth 100000 in
theorem v_X1_directions {G : jGt} {Q : jPost} {K : List jK} {h : jM}  (hT : jX K ∧ Q (some (.int (jdirs h))) K h) (H0 : jHd cd_X1_directions G Q sg_X1_directions_0 0) : G 0 [some (.ref 1)] [] K h 0 0 := by
  obtain ⟨hX, hT⟩ := hT
  refine H0 30 _ _ _ _ _ _ ?_
  simp only [sg_X1_directions_0, sg_X1_directions_15, sg_X1_directions_19, cd_X1_directions, jwp, o_ic, o_lc, o_iload, o_lload, o_aload, o_istore, o_lstore, o_astore, o_iinc, o_pop, o_dup, o_dup2, o_iadd, o_isub, o_imul, o_iand, o_ior, o_ishl, o_ladd, o_lmul, o_land, o_lor, o_idiv, o_irem, o_ineg, o_i2l, o_l2i, o_i2b, o_i2s, o_lushr, o_lshr, o_lshl, o_lcmp, o_ifeq, o_ifne, o_iflt, o_ifge, o_ifgt, o_ifle, o_iceq, o_icne, o_iclt, o_icge, o_icgt, o_icle, o_goto, o_tsw, jsw, o_lsw, jlk, o_getf, o_putf, o_putz, o_iald, o_zald, o_iast, o_zast, o_aald, o_alen, o_gets, o_zld, o_zlen, o_cpy, o_call, o_callV, o_ireti, o_iretz, o_lret, o_vret, jg, js, jkp, jkill, jsp, jcs, jfw, jov, Value.category, Option.toList_some, Option.toList_none, List.nil_append, List.cons_append, List.append_nil, Nat.reduceAdd, true_and, and_true, jb0, jb01, jb1, jem, true_or, or_true, Classical.not_not, forall_const, List.length_cons, List.length_nil, Nat.reduceLeDiff, Nat.zero_le, Nat.reduceLT, hX, kx_0_0 hX, kx_0_1 hX, kx_0_2 hX, kx_0_3 hX, kx_0_4 hX, kx_0_5 hX, kx_0_6 hX, kx_0_7 hX, kx_0_8 hX, kxo_0 hX, kx_1_0 hX, kx_1_1 hX, kx_1_2 hX, kx_1_3 hX, kxo_1 hX, kx_4_0 hX, kx_4_1 hX, kx_4_2 hX, kxo_4 hX, kx_19_0 hX, kx_19_1 hX, kx_19_2 hX, kx_19_3 hX, kx_19_4 hX, kxo_19 hX, kx_24_0 hX, kx_24_1 hX, kx_24_2 hX, kx_24_3 hX, kx_24_4 hX, kx_24_5 hX, kx_24_6 hX, kxo_24 hX, kxa_2 hX, kxa_3 hX, kxa_6 hX, kxa_7 hX, kxa_8 hX, kxa_9 hX, kxa_10 hX, kxa_18 hX, kxa_20 hX, kxa_21 hX, kxa_22 hX, kxa_23 hX, kxa_26 hX, kxa_27 hX, kxr_5 hX, kxr_11 hX, kxr_28 hX]
  unfold jdirs at hT
  refine ⟨fun c => ?_, fun c => ?_⟩
  · rw [if_neg c] at hT
    exact hT
  · rw [if_pos c] at hT
    exact hT
theorem m_X1_directions (l : Launch) : jHolds vwCl l yX1_directions wsX1_directions 0 0 0 0 T_X1_directions := by
  refine m_X1_directions_of l (fun G Q vs K h H0 hT => ?_)
  unfold T_X1_directions at hT
  split at hT
  · obtain ⟨rfl, hT⟩ := hT
    exact ⟨Nat.le_of_ble_eq_true rfl, v_X1_directions hT H0⟩
  · exact hT.elim

/-! X1_stepX -/
def jsX (h : jM) (d : Int32) : Int32 := if h 1 0 = 1 then jzr 2 d.toNatClampNeg else jzr 0 d.toNatClampNeg
def T_X1_stepX : jT := fun vs K h Q => match vs with
  | [.ref r0, .int d] => r0 = 1 ∧ (jX K ∧ vp_in d (if h 1 0 = 1 then 6 else 4) ∧ Q (some (.int (jsX h d))) K h)
  | _ => False
def sg_X1_stepX_0 : jS := [(o_aload 0, 1), (o_getf 1 0, 3), (o_ic (1), 1), (o_icne 16, 3), (o_gets 2, 3), (o_iload 1, 1), (o_zld 2, 1), (o_goto 21, 3)]
def sg_X1_stepX_16 : jS := [(o_gets 0, 3), (o_iload 1, 1), (o_zld 0, 1), (o_ireti, 1)]
def sg_X1_stepX_21 : jS := [(o_ireti, 1)]
def cd_X1_stepX : Nat → jS := fun t => match t with
  | 16 => sg_X1_stepX_16
  | 21 => sg_X1_stepX_21
  | _ => []
theorem wl_X1_stepX_9 : Cond.fieldLink RX1 9 (TX1 0).1 (TX1 0).2.1 (TX1 0).2.2.1 ∈ wsX1_stepX := by decide +kernel
theorem wi_X1_stepX_X1 : ∀ w ∈ u_ws RX1 TX1 4, w ∈ wsX1_stepX := by decide +kernel
def E_X1_stepX (Γ : jΓ) (Q : jPost) : Prop := Γ.2.2.2.2.2.2.2.2.2.2.1 = 2 ∧ Γ.2.2.2.2.2.2.2.2.2.2.2.1 = vwCl ∧ jC Γ cX1_stepX RX1 "stepX" (some .int) wsX1_stepX 0 0 0 0 ∧ jR Γ Q 0 0
theorem oo_X1_stepX_0 {Γ : jΓ} {Q : jPost} (E : E_X1_stepX Γ Q) : jSA Γ Q 0 (o_aload 0) 1 := so_aload_n E.2.2.1 rfl dX1_stepX_0
theorem oo_X1_stepX_1 {Γ : jΓ} {Q : jPost} (E : E_X1_stepX Γ Q) : jSA Γ Q 1 (o_getf 1 0) 3 := so_getf (ci := 1) E.2.2.1 wi_X1_stepX_X1 (by rw [E.2.1]; rfl) 0 (by decide) wl_X1_stepX_9 dX1_stepX_1
theorem oo_X1_stepX_4 {Γ : jΓ} {Q : jPost} (E : E_X1_stepX Γ Q) : jSA Γ Q 4 (o_ic (1)) 1 := so_iconst E.2.2.1 rfl dX1_stepX_4
theorem oo_X1_stepX_5 {Γ : jΓ} {Q : jPost} (E : E_X1_stepX Γ Q) : jSA Γ Q 5 (o_icne 16) 3 := so_icne E.2.2.1 (by decide) dX1_stepX_5
theorem oo_X1_stepX_8 {Γ : jΓ} {Q : jPost} (E : E_X1_stepX Γ Q) : jSA Γ Q 8 (o_gets 2) 3 := so_gets E.2.2.1 (by decide +kernel) dX1_stepX_8
theorem oo_X1_stepX_11 {Γ : jΓ} {Q : jPost} (E : E_X1_stepX Γ Q) : jSA Γ Q 11 (o_iload 1) 1 := so_iload_n E.2.2.1 rfl dX1_stepX_11
theorem oo_X1_stepX_12 {Γ : jΓ} {Q : jPost} (E : E_X1_stepX Γ Q) : jSA Γ Q 12 (o_zld 2) 1 := so_zld E.2.2.1 dX1_stepX_12
theorem oo_X1_stepX_13 {Γ : jΓ} {Q : jPost} (E : E_X1_stepX Γ Q) : jSA Γ Q 13 (o_goto 21) 3 := so_goto E.2.2.1 (by decide) dX1_stepX_13
theorem oo_X1_stepX_16 {Γ : jΓ} {Q : jPost} (E : E_X1_stepX Γ Q) : jSA Γ Q 16 (o_gets 0) 3 := so_gets E.2.2.1 (by decide +kernel) dX1_stepX_16
theorem oo_X1_stepX_19 {Γ : jΓ} {Q : jPost} (E : E_X1_stepX Γ Q) : jSA Γ Q 19 (o_iload 1) 1 := so_iload_n E.2.2.1 rfl dX1_stepX_19
theorem oo_X1_stepX_20 {Γ : jΓ} {Q : jPost} (E : E_X1_stepX Γ Q) : jSA Γ Q 20 (o_zld 0) 1 := so_zld E.2.2.1 dX1_stepX_20
theorem oo_X1_stepX_21 {Γ : jΓ} {Q : jPost} (E : E_X1_stepX Γ Q) : jSA Γ Q 21 (o_ireti) 1 := so_ireti E.2.2.1 E.2.2.2 dX1_stepX_21
theorem ok_X1_stepX_0 {Γ : jΓ} {Q : jPost} (E : E_X1_stepX Γ Q) : jSS Γ Q 0 sg_X1_stepX_0 := ⟨oo_X1_stepX_0 E, oo_X1_stepX_1 E, oo_X1_stepX_4 E, oo_X1_stepX_5 E, oo_X1_stepX_8 E, oo_X1_stepX_11 E, oo_X1_stepX_12 E, oo_X1_stepX_13 E, trivial⟩
theorem ok_X1_stepX_16 {Γ : jΓ} {Q : jPost} (E : E_X1_stepX Γ Q) : jSS Γ Q 16 sg_X1_stepX_16 := ⟨oo_X1_stepX_16 E, oo_X1_stepX_19 E, oo_X1_stepX_20 E, oo_X1_stepX_21 E, trivial⟩
theorem ok_X1_stepX_21 {Γ : jΓ} {Q : jPost} (E : E_X1_stepX Γ Q) : jSS Γ Q 21 sg_X1_stepX_21 := ⟨oo_X1_stepX_21 E, trivial⟩
theorem okc_X1_stepX {Γ : jΓ} {Q : jPost} (E : E_X1_stepX Γ Q) (t : Nat) : jSS Γ Q t (cd_X1_stepX t) := by
  unfold cd_X1_stepX
  split
  · exact ok_X1_stepX_16 E
  · exact ok_X1_stepX_21 E
  · trivial
theorem m_X1_stepX_of (l : Launch) (hv : ∀ (G : jGt) (Q : jPost) (vs : List Value) (K : List jK) (h : jM), jHd cd_X1_stepX G Q sg_X1_stepX_0 0 → T_X1_stepX vs K h Q → (lg_sl vs).length ≤ 2 ∧ G 0 (jinit vs 2) [] K h 0 0) : jHolds vwCl l yX1_stepX wsX1_stepX 0 0 0 0 T_X1_stepX := by
  refine jMet (cc := cX1_stepX) (maxL := 2) (rt := (some .int)) (by decide +kernel) rfl (fun Γ Q vs K h hl hn hcl C hR hT => hv (jG Γ) Q vs K h ?_ hT)
  · exact fun n L st K h ce sl => jwp_ok (okc_X1_stepX ⟨hn, hcl, C, hR⟩) n sg_X1_stepX_0 0 (ok_X1_stepX_0 ⟨hn, hcl, C, hR⟩) L st K h ce sl
set_option maxHeartbeats 4000000 in
set_option maxRecDepth 100000 in
theorem v_X1_stepX {G : jGt} {Q : jPost} {K : List jK} {h : jM} {d : Int32} (hT : jX K ∧ vp_in d (if h 1 0 = 1 then 6 else 4) ∧ Q (some (.int (jsX h d))) K h) (H0 : jHd cd_X1_stepX G Q sg_X1_stepX_0 0) : G 0 [some (.ref 1), some (.int d)] [] K h 0 0 := by
  obtain ⟨hX, hd, hT⟩ := hT
  refine H0 30 _ _ _ _ _ _ ?_
  simp only [sg_X1_stepX_0, sg_X1_stepX_16, sg_X1_stepX_21, cd_X1_stepX, jwp, o_ic, o_lc, o_iload, o_lload, o_aload, o_istore, o_lstore, o_astore, o_iinc, o_pop, o_dup, o_dup2, o_iadd, o_isub, o_imul, o_iand, o_ior, o_ishl, o_ladd, o_lmul, o_land, o_lor, o_idiv, o_irem, o_ineg, o_i2l, o_l2i, o_i2b, o_i2s, o_lushr, o_lshr, o_lshl, o_lcmp, o_ifeq, o_ifne, o_iflt, o_ifge, o_ifgt, o_ifle, o_iceq, o_icne, o_iclt, o_icge, o_icgt, o_icle, o_goto, o_tsw, jsw, o_lsw, jlk, o_getf, o_putf, o_putz, o_iald, o_zald, o_iast, o_zast, o_aald, o_alen, o_gets, o_zld, o_zlen, o_cpy, o_call, o_callV, o_ireti, o_iretz, o_lret, o_vret, jg, js, jkp, jkill, jsp, jcs, jfw, jov, Value.category, Option.toList_some, Option.toList_none, List.nil_append, List.cons_append, List.append_nil, Nat.reduceAdd, true_and, and_true, jb0, jb01, jb1, jem, true_or, or_true, Classical.not_not, forall_const, List.length_cons, List.length_nil, Nat.reduceLeDiff, Nat.zero_le, Nat.reduceLT, hX, kx_0_0 hX, kx_0_1 hX, kx_0_2 hX, kx_0_3 hX, kx_0_4 hX, kx_0_5 hX, kx_0_6 hX, kx_0_7 hX, kx_0_8 hX, kxo_0 hX, kx_1_0 hX, kx_1_1 hX, kx_1_2 hX, kx_1_3 hX, kxo_1 hX, kx_4_0 hX, kx_4_1 hX, kx_4_2 hX, kxo_4 hX, kx_19_0 hX, kx_19_1 hX, kx_19_2 hX, kx_19_3 hX, kx_19_4 hX, kxo_19 hX, kx_24_0 hX, kx_24_1 hX, kx_24_2 hX, kx_24_3 hX, kx_24_4 hX, kx_24_5 hX, kx_24_6 hX, kxo_24 hX, kxa_2 hX, kxa_3 hX, kxa_6 hX, kxa_7 hX, kxa_8 hX, kxa_9 hX, kxa_10 hX, kxa_18 hX, kxa_20 hX, kxa_21 hX, kxa_22 hX, kxa_23 hX, kxa_26 hX, kxa_27 hX, kxr_5 hX, kxr_11 hX, kxr_28 hX]
  unfold jsX at hT
  refine ⟨fun c => ?_, fun c => ?_⟩
  · rw [if_neg c] at hT hd
    exact ⟨hd, hT⟩
  · rw [if_pos c] at hT hd
    exact ⟨hd, hT⟩
theorem m_X1_stepX (l : Launch) : jHolds vwCl l yX1_stepX wsX1_stepX 0 0 0 0 T_X1_stepX := by
  refine m_X1_stepX_of l (fun G Q vs K h H0 hT => ?_)
  unfold T_X1_stepX at hT
  split at hT
  · obtain ⟨rfl, hT⟩ := hT
    exact ⟨Nat.le_of_ble_eq_true rfl, v_X1_stepX hT H0⟩
  · exact hT.elim

/-! X1_stepY -/
def jsY (h : jM) (d : Int32) : Int32 := if h 1 0 = 1 then jzr 3 d.toNatClampNeg else jzr 1 d.toNatClampNeg
def T_X1_stepY : jT := fun vs K h Q => match vs with
  | [.ref r0, .int d] => r0 = 1 ∧ (jX K ∧ vp_in d (if h 1 0 = 1 then 6 else 4) ∧ Q (some (.int (jsY h d))) K h)
  | _ => False
def sg_X1_stepY_0 : jS := [(o_aload 0, 1), (o_getf 1 0, 3), (o_ic (1), 1), (o_icne 16, 3), (o_gets 3, 3), (o_iload 1, 1), (o_zld 3, 1), (o_goto 21, 3)]
def sg_X1_stepY_16 : jS := [(o_gets 1, 3), (o_iload 1, 1), (o_zld 1, 1), (o_ireti, 1)]
def sg_X1_stepY_21 : jS := [(o_ireti, 1)]
def cd_X1_stepY : Nat → jS := fun t => match t with
  | 16 => sg_X1_stepY_16
  | 21 => sg_X1_stepY_21
  | _ => []
theorem wl_X1_stepY_9 : Cond.fieldLink RX1 9 (TX1 0).1 (TX1 0).2.1 (TX1 0).2.2.1 ∈ wsX1_stepY := by decide +kernel
theorem wi_X1_stepY_X1 : ∀ w ∈ u_ws RX1 TX1 4, w ∈ wsX1_stepY := by decide +kernel
def E_X1_stepY (Γ : jΓ) (Q : jPost) : Prop := Γ.2.2.2.2.2.2.2.2.2.2.1 = 2 ∧ Γ.2.2.2.2.2.2.2.2.2.2.2.1 = vwCl ∧ jC Γ cX1_stepY RX1 "stepY" (some .int) wsX1_stepY 0 0 0 0 ∧ jR Γ Q 0 0
theorem oo_X1_stepY_0 {Γ : jΓ} {Q : jPost} (E : E_X1_stepY Γ Q) : jSA Γ Q 0 (o_aload 0) 1 := so_aload_n E.2.2.1 rfl dX1_stepY_0
theorem oo_X1_stepY_1 {Γ : jΓ} {Q : jPost} (E : E_X1_stepY Γ Q) : jSA Γ Q 1 (o_getf 1 0) 3 := so_getf (ci := 1) E.2.2.1 wi_X1_stepY_X1 (by rw [E.2.1]; rfl) 0 (by decide) wl_X1_stepY_9 dX1_stepY_1
theorem oo_X1_stepY_4 {Γ : jΓ} {Q : jPost} (E : E_X1_stepY Γ Q) : jSA Γ Q 4 (o_ic (1)) 1 := so_iconst E.2.2.1 rfl dX1_stepY_4
theorem oo_X1_stepY_5 {Γ : jΓ} {Q : jPost} (E : E_X1_stepY Γ Q) : jSA Γ Q 5 (o_icne 16) 3 := so_icne E.2.2.1 (by decide) dX1_stepY_5
theorem oo_X1_stepY_8 {Γ : jΓ} {Q : jPost} (E : E_X1_stepY Γ Q) : jSA Γ Q 8 (o_gets 3) 3 := so_gets E.2.2.1 (by decide +kernel) dX1_stepY_8
theorem oo_X1_stepY_11 {Γ : jΓ} {Q : jPost} (E : E_X1_stepY Γ Q) : jSA Γ Q 11 (o_iload 1) 1 := so_iload_n E.2.2.1 rfl dX1_stepY_11
theorem oo_X1_stepY_12 {Γ : jΓ} {Q : jPost} (E : E_X1_stepY Γ Q) : jSA Γ Q 12 (o_zld 3) 1 := so_zld E.2.2.1 dX1_stepY_12
theorem oo_X1_stepY_13 {Γ : jΓ} {Q : jPost} (E : E_X1_stepY Γ Q) : jSA Γ Q 13 (o_goto 21) 3 := so_goto E.2.2.1 (by decide) dX1_stepY_13
theorem oo_X1_stepY_16 {Γ : jΓ} {Q : jPost} (E : E_X1_stepY Γ Q) : jSA Γ Q 16 (o_gets 1) 3 := so_gets E.2.2.1 (by decide +kernel) dX1_stepY_16
theorem oo_X1_stepY_19 {Γ : jΓ} {Q : jPost} (E : E_X1_stepY Γ Q) : jSA Γ Q 19 (o_iload 1) 1 := so_iload_n E.2.2.1 rfl dX1_stepY_19
theorem oo_X1_stepY_20 {Γ : jΓ} {Q : jPost} (E : E_X1_stepY Γ Q) : jSA Γ Q 20 (o_zld 1) 1 := so_zld E.2.2.1 dX1_stepY_20
theorem oo_X1_stepY_21 {Γ : jΓ} {Q : jPost} (E : E_X1_stepY Γ Q) : jSA Γ Q 21 (o_ireti) 1 := so_ireti E.2.2.1 E.2.2.2 dX1_stepY_21
theorem ok_X1_stepY_0 {Γ : jΓ} {Q : jPost} (E : E_X1_stepY Γ Q) : jSS Γ Q 0 sg_X1_stepY_0 := ⟨oo_X1_stepY_0 E, oo_X1_stepY_1 E, oo_X1_stepY_4 E, oo_X1_stepY_5 E, oo_X1_stepY_8 E, oo_X1_stepY_11 E, oo_X1_stepY_12 E, oo_X1_stepY_13 E, trivial⟩
theorem ok_X1_stepY_16 {Γ : jΓ} {Q : jPost} (E : E_X1_stepY Γ Q) : jSS Γ Q 16 sg_X1_stepY_16 := ⟨oo_X1_stepY_16 E, oo_X1_stepY_19 E, oo_X1_stepY_20 E, oo_X1_stepY_21 E, trivial⟩
theorem ok_X1_stepY_21 {Γ : jΓ} {Q : jPost} (E : E_X1_stepY Γ Q) : jSS Γ Q 21 sg_X1_stepY_21 := ⟨oo_X1_stepY_21 E, trivial⟩
theorem okc_X1_stepY {Γ : jΓ} {Q : jPost} (E : E_X1_stepY Γ Q) (t : Nat) : jSS Γ Q t (cd_X1_stepY t) := by
  unfold cd_X1_stepY
  split
  · exact ok_X1_stepY_16 E
  · exact ok_X1_stepY_21 E
  · trivial
theorem m_X1_stepY_of (l : Launch) (hv : ∀ (G : jGt) (Q : jPost) (vs : List Value) (K : List jK) (h : jM), jHd cd_X1_stepY G Q sg_X1_stepY_0 0 → T_X1_stepY vs K h Q → (lg_sl vs).length ≤ 2 ∧ G 0 (jinit vs 2) [] K h 0 0) : jHolds vwCl l yX1_stepY wsX1_stepY 0 0 0 0 T_X1_stepY := by
  refine jMet (cc := cX1_stepY) (maxL := 2) (rt := (some .int)) (by decide +kernel) rfl (fun Γ Q vs K h hl hn hcl C hR hT => hv (jG Γ) Q vs K h ?_ hT)
  · exact fun n L st K h ce sl => jwp_ok (okc_X1_stepY ⟨hn, hcl, C, hR⟩) n sg_X1_stepY_0 0 (ok_X1_stepY_0 ⟨hn, hcl, C, hR⟩) L st K h ce sl
set_option maxHeartbeats 4000000 in
set_option maxRecDepth 100000 in
theorem v_X1_stepY {G : jGt} {Q : jPost} {K : List jK} {h : jM} {d : Int32} (hT : jX K ∧ vp_in d (if h 1 0 = 1 then 6 else 4) ∧ Q (some (.int (jsY h d))) K h) (H0 : jHd cd_X1_stepY G Q sg_X1_stepY_0 0) : G 0 [some (.ref 1), some (.int d)] [] K h 0 0 := by
  obtain ⟨hX, hd, hT⟩ := hT
  refine H0 30 _ _ _ _ _ _ ?_
  simp only [sg_X1_stepY_0, sg_X1_stepY_16, sg_X1_stepY_21, cd_X1_stepY, jwp, o_ic, o_lc, o_iload, o_lload, o_aload, o_istore, o_lstore, o_astore, o_iinc, o_pop, o_dup, o_dup2, o_iadd, o_isub, o_imul, o_iand, o_ior, o_ishl, o_ladd, o_lmul, o_land, o_lor, o_idiv, o_irem, o_ineg, o_i2l, o_l2i, o_i2b, o_i2s, o_lushr, o_lshr, o_lshl, o_lcmp, o_ifeq, o_ifne, o_iflt, o_ifge, o_ifgt, o_ifle, o_iceq, o_icne, o_iclt, o_icge, o_icgt, o_icle, o_goto, o_tsw, jsw, o_lsw, jlk, o_getf, o_putf, o_putz, o_iald, o_zald, o_iast, o_zast, o_aald, o_alen, o_gets, o_zld, o_zlen, o_cpy, o_call, o_callV, o_ireti, o_iretz, o_lret, o_vret, jg, js, jkp, jkill, jsp, jcs, jfw, jov, Value.category, Option.toList_some, Option.toList_none, List.nil_append, List.cons_append, List.append_nil, Nat.reduceAdd, true_and, and_true, jb0, jb01, jb1, jem, true_or, or_true, Classical.not_not, forall_const, List.length_cons, List.length_nil, Nat.reduceLeDiff, Nat.zero_le, Nat.reduceLT, hX, kx_0_0 hX, kx_0_1 hX, kx_0_2 hX, kx_0_3 hX, kx_0_4 hX, kx_0_5 hX, kx_0_6 hX, kx_0_7 hX, kx_0_8 hX, kxo_0 hX, kx_1_0 hX, kx_1_1 hX, kx_1_2 hX, kx_1_3 hX, kxo_1 hX, kx_4_0 hX, kx_4_1 hX, kx_4_2 hX, kxo_4 hX, kx_19_0 hX, kx_19_1 hX, kx_19_2 hX, kx_19_3 hX, kx_19_4 hX, kxo_19 hX, kx_24_0 hX, kx_24_1 hX, kx_24_2 hX, kx_24_3 hX, kx_24_4 hX, kx_24_5 hX, kx_24_6 hX, kxo_24 hX, kxa_2 hX, kxa_3 hX, kxa_6 hX, kxa_7 hX, kxa_8 hX, kxa_9 hX, kxa_10 hX, kxa_18 hX, kxa_20 hX, kxa_21 hX, kxa_22 hX, kxa_23 hX, kxa_26 hX, kxa_27 hX, kxr_5 hX, kxr_11 hX, kxr_28 hX]
  unfold jsY at hT
  refine ⟨fun c => ?_, fun c => ?_⟩
  · rw [if_neg c] at hT hd
    exact ⟨hd, hT⟩
  · rw [if_pos c] at hT hd
    exact ⟨hd, hT⟩
theorem m_X1_stepY (l : Launch) : jHolds vwCl l yX1_stepY wsX1_stepY 0 0 0 0 T_X1_stepY := by
  refine m_X1_stepY_of l (fun G Q vs K h H0 hT => ?_)
  unfold T_X1_stepY at hT
  split at hT
  · obtain ⟨rfl, hT⟩ := hT
    exact ⟨Nat.le_of_ble_eq_true rfl, v_X1_stepY hT H0⟩
  · exact hT.elim

/-! X1_turned -/
/-- turned by less than a whole round -/
def jturn (D s : Int32) : Int32 := if s < 0 then s + D else if s < D then s else s - D
def T_X1_turned : jT := fun vs K h Q => match vs with
  | [.ref r0, .int d, .int b] => r0 = 1 ∧ (jX K ∧ Q (some (.int (jturn (jdirs h) (d + b)))) K h)
  | _ => False
def sg_X1_turned_0 : jS := [(o_iload 1, 1), (o_iload 2, 1), (o_iadd, 1), (o_istore 3, 1), (o_iload 3, 1), (o_ifge 15, 3), (o_iload 3, 1), (o_aload 0, 1), (o_callV 1 1 T_X1_directions, 3), (o_iadd, 1), (o_ireti, 1)]
def sg_X1_turned_15 : jS := [(o_iload 3, 1), (o_aload 0, 1), (o_callV 1 1 T_X1_directions, 3), (o_icge 27, 3), (o_iload 3, 1), (o_goto 33, 3)]
def sg_X1_turned_27 : jS := [(o_iload 3, 1), (o_aload 0, 1), (o_callV 1 1 T_X1_directions, 3), (o_isub, 1), (o_ireti, 1)]
def sg_X1_turned_33 : jS := [(o_ireti, 1)]
def cd_X1_turned : Nat → jS := fun t => match t with
  | 15 => sg_X1_turned_15
  | 27 => sg_X1_turned_27
  | 33 => sg_X1_turned_33
  | _ => []
def E_X1_turned (Γ : jΓ) (Q : jPost) : Prop := Γ.2.2.2.2.2.2.2.2.2.2.1 = 4 ∧ Γ.2.2.2.2.2.2.2.2.2.2.2.1 = vwCl ∧ jC Γ cX1_turned RX1 "turned" (some .int) wsX1_turned 1 20 0 0 ∧ jR Γ Q 0 0
theorem oo_X1_turned_0 {Γ : jΓ} {Q : jPost} (E : E_X1_turned Γ Q) : jSA Γ Q 0 (o_iload 1) 1 := so_iload_n E.2.2.1 rfl dX1_turned_0
theorem oo_X1_turned_1 {Γ : jΓ} {Q : jPost} (E : E_X1_turned Γ Q) : jSA Γ Q 1 (o_iload 2) 1 := so_iload_n E.2.2.1 rfl dX1_turned_1
theorem oo_X1_turned_2 {Γ : jΓ} {Q : jPost} (E : E_X1_turned Γ Q) : jSA Γ Q 2 (o_iadd) 1 := so_iadd E.2.2.1 dX1_turned_2
theorem oo_X1_turned_3 {Γ : jΓ} {Q : jPost} (E : E_X1_turned Γ Q) : jSA Γ Q 3 (o_istore 3) 1 := so_istore_n E.2.2.1 rfl (by rw [E.1]; decide) dX1_turned_3
theorem oo_X1_turned_4 {Γ : jΓ} {Q : jPost} (E : E_X1_turned Γ Q) : jSA Γ Q 4 (o_iload 3) 1 := so_iload_n E.2.2.1 rfl dX1_turned_4
theorem oo_X1_turned_5 {Γ : jΓ} {Q : jPost} (E : E_X1_turned Γ Q) : jSA Γ Q 5 (o_ifge 15) 3 := so_ifge E.2.2.1 (by decide) dX1_turned_5
theorem oo_X1_turned_8 {Γ : jΓ} {Q : jPost} (E : E_X1_turned Γ Q) : jSA Γ Q 8 (o_iload 3) 1 := so_iload_n E.2.2.1 rfl dX1_turned_8
theorem oo_X1_turned_9 {Γ : jΓ} {Q : jPost} (E : E_X1_turned Γ Q) : jSA Γ Q 9 (o_aload 0) 1 := so_aload_n E.2.2.1 rfl dX1_turned_9
theorem oo_X1_turned_10 {Γ : jΓ} {Q : jPost} (E : E_X1_turned Γ Q) : jSA Γ Q 10 (o_callV 1 1 T_X1_directions) 3 := so_callV E.2.2.1 (ci := 1) (by rw [E.2.1]; rfl) gX1_turned_X1_directions (by decide +kernel) rfl (by rw [E.2.1]; exact m_X1_directions _) (by decide) (by decide) dX1_turned_10
theorem oo_X1_turned_13 {Γ : jΓ} {Q : jPost} (E : E_X1_turned Γ Q) : jSA Γ Q 13 (o_iadd) 1 := so_iadd E.2.2.1 dX1_turned_13
theorem oo_X1_turned_14 {Γ : jΓ} {Q : jPost} (E : E_X1_turned Γ Q) : jSA Γ Q 14 (o_ireti) 1 := so_ireti E.2.2.1 E.2.2.2 dX1_turned_14
theorem oo_X1_turned_15 {Γ : jΓ} {Q : jPost} (E : E_X1_turned Γ Q) : jSA Γ Q 15 (o_iload 3) 1 := so_iload_n E.2.2.1 rfl dX1_turned_15
theorem oo_X1_turned_16 {Γ : jΓ} {Q : jPost} (E : E_X1_turned Γ Q) : jSA Γ Q 16 (o_aload 0) 1 := so_aload_n E.2.2.1 rfl dX1_turned_16
theorem oo_X1_turned_17 {Γ : jΓ} {Q : jPost} (E : E_X1_turned Γ Q) : jSA Γ Q 17 (o_callV 1 1 T_X1_directions) 3 := so_callV E.2.2.1 (ci := 1) (by rw [E.2.1]; rfl) gX1_turned_X1_directions (by decide +kernel) rfl (by rw [E.2.1]; exact m_X1_directions _) (by decide) (by decide) dX1_turned_17
theorem oo_X1_turned_20 {Γ : jΓ} {Q : jPost} (E : E_X1_turned Γ Q) : jSA Γ Q 20 (o_icge 27) 3 := so_icge E.2.2.1 (by decide) dX1_turned_20
theorem oo_X1_turned_23 {Γ : jΓ} {Q : jPost} (E : E_X1_turned Γ Q) : jSA Γ Q 23 (o_iload 3) 1 := so_iload_n E.2.2.1 rfl dX1_turned_23
theorem oo_X1_turned_24 {Γ : jΓ} {Q : jPost} (E : E_X1_turned Γ Q) : jSA Γ Q 24 (o_goto 33) 3 := so_goto E.2.2.1 (by decide) dX1_turned_24
theorem oo_X1_turned_27 {Γ : jΓ} {Q : jPost} (E : E_X1_turned Γ Q) : jSA Γ Q 27 (o_iload 3) 1 := so_iload_n E.2.2.1 rfl dX1_turned_27
theorem oo_X1_turned_28 {Γ : jΓ} {Q : jPost} (E : E_X1_turned Γ Q) : jSA Γ Q 28 (o_aload 0) 1 := so_aload_n E.2.2.1 rfl dX1_turned_28
theorem oo_X1_turned_29 {Γ : jΓ} {Q : jPost} (E : E_X1_turned Γ Q) : jSA Γ Q 29 (o_callV 1 1 T_X1_directions) 3 := so_callV E.2.2.1 (ci := 1) (by rw [E.2.1]; rfl) gX1_turned_X1_directions (by decide +kernel) rfl (by rw [E.2.1]; exact m_X1_directions _) (by decide) (by decide) dX1_turned_29
theorem oo_X1_turned_32 {Γ : jΓ} {Q : jPost} (E : E_X1_turned Γ Q) : jSA Γ Q 32 (o_isub) 1 := so_isub E.2.2.1 dX1_turned_32
theorem oo_X1_turned_33 {Γ : jΓ} {Q : jPost} (E : E_X1_turned Γ Q) : jSA Γ Q 33 (o_ireti) 1 := so_ireti E.2.2.1 E.2.2.2 dX1_turned_33
theorem ok_X1_turned_0 {Γ : jΓ} {Q : jPost} (E : E_X1_turned Γ Q) : jSS Γ Q 0 sg_X1_turned_0 := ⟨oo_X1_turned_0 E, oo_X1_turned_1 E, oo_X1_turned_2 E, oo_X1_turned_3 E, oo_X1_turned_4 E, oo_X1_turned_5 E, oo_X1_turned_8 E, oo_X1_turned_9 E, oo_X1_turned_10 E, oo_X1_turned_13 E, oo_X1_turned_14 E, trivial⟩
theorem ok_X1_turned_15 {Γ : jΓ} {Q : jPost} (E : E_X1_turned Γ Q) : jSS Γ Q 15 sg_X1_turned_15 := ⟨oo_X1_turned_15 E, oo_X1_turned_16 E, oo_X1_turned_17 E, oo_X1_turned_20 E, oo_X1_turned_23 E, oo_X1_turned_24 E, trivial⟩
theorem ok_X1_turned_27 {Γ : jΓ} {Q : jPost} (E : E_X1_turned Γ Q) : jSS Γ Q 27 sg_X1_turned_27 := ⟨oo_X1_turned_27 E, oo_X1_turned_28 E, oo_X1_turned_29 E, oo_X1_turned_32 E, oo_X1_turned_33 E, trivial⟩
theorem ok_X1_turned_33 {Γ : jΓ} {Q : jPost} (E : E_X1_turned Γ Q) : jSS Γ Q 33 sg_X1_turned_33 := ⟨oo_X1_turned_33 E, trivial⟩
theorem okc_X1_turned {Γ : jΓ} {Q : jPost} (E : E_X1_turned Γ Q) (t : Nat) : jSS Γ Q t (cd_X1_turned t) := by
  unfold cd_X1_turned
  split
  · exact ok_X1_turned_15 E
  · exact ok_X1_turned_27 E
  · exact ok_X1_turned_33 E
  · trivial
theorem m_X1_turned_of (l : Launch) (hv : ∀ (G : jGt) (Q : jPost) (vs : List Value) (K : List jK) (h : jM), jHd cd_X1_turned G Q sg_X1_turned_0 0 → T_X1_turned vs K h Q → (lg_sl vs).length ≤ 4 ∧ G 0 (jinit vs 4) [] K h 0 0) : jHolds vwCl l yX1_turned wsX1_turned 1 20 0 0 T_X1_turned := by
  refine jMet (cc := cX1_turned) (maxL := 4) (rt := (some .int)) (by decide +kernel) rfl (fun Γ Q vs K h hl hn hcl C hR hT => hv (jG Γ) Q vs K h ?_ hT)
  · exact fun n L st K h ce sl => jwp_ok (okc_X1_turned ⟨hn, hcl, C, hR⟩) n sg_X1_turned_0 0 (ok_X1_turned_0 ⟨hn, hcl, C, hR⟩) L st K h ce sl
set_option maxHeartbeats 4000000 in
set_option maxRecDepth 100000 in
theorem v_X1_turned {G : jGt} {Q : jPost} {K : List jK} {h : jM} {d : Int32} {b : Int32} (hT : jX K ∧ Q (some (.int (jturn (jdirs h) (d + b)))) K h) (H0 : jHd cd_X1_turned G Q sg_X1_turned_0 0) : G 0 [some (.ref 1), some (.int d), some (.int b), none] [] K h 0 0 := by
  obtain ⟨hX, hT⟩ := hT
  refine H0 30 _ _ _ _ _ _ ?_
  simp only [sg_X1_turned_0, sg_X1_turned_15, sg_X1_turned_27, sg_X1_turned_33, cd_X1_turned, jwp, o_ic, o_lc, o_iload, o_lload, o_aload, o_istore, o_lstore, o_astore, o_iinc, o_pop, o_dup, o_dup2, o_iadd, o_isub, o_imul, o_iand, o_ior, o_ishl, o_ladd, o_lmul, o_land, o_lor, o_idiv, o_irem, o_ineg, o_i2l, o_l2i, o_i2b, o_i2s, o_lushr, o_lshr, o_lshl, o_lcmp, o_ifeq, o_ifne, o_iflt, o_ifge, o_ifgt, o_ifle, o_iceq, o_icne, o_iclt, o_icge, o_icgt, o_icle, o_goto, o_tsw, jsw, o_lsw, jlk, o_getf, o_putf, o_putz, o_iald, o_zald, o_iast, o_zast, o_aald, o_alen, o_gets, o_zld, o_zlen, o_cpy, o_call, o_callV, o_ireti, o_iretz, o_lret, o_vret, jg, js, jkp, jkill, jsp, jcs, jfw, jov, Value.category, Option.toList_some, Option.toList_none, List.nil_append, List.cons_append, List.append_nil, Nat.reduceAdd, true_and, and_true, jb0, jb01, jb1, jem, true_or, or_true, Classical.not_not, forall_const, List.length_cons, List.length_nil, Nat.reduceLeDiff, Nat.zero_le, Nat.reduceLT, hX, kx_0_0 hX, kx_0_1 hX, kx_0_2 hX, kx_0_3 hX, kx_0_4 hX, kx_0_5 hX, kx_0_6 hX, kx_0_7 hX, kx_0_8 hX, kxo_0 hX, kx_1_0 hX, kx_1_1 hX, kx_1_2 hX, kx_1_3 hX, kxo_1 hX, kx_4_0 hX, kx_4_1 hX, kx_4_2 hX, kxo_4 hX, kx_19_0 hX, kx_19_1 hX, kx_19_2 hX, kx_19_3 hX, kx_19_4 hX, kxo_19 hX, kx_24_0 hX, kx_24_1 hX, kx_24_2 hX, kx_24_3 hX, kx_24_4 hX, kx_24_5 hX, kx_24_6 hX, kxo_24 hX, kxa_2 hX, kxa_3 hX, kxa_6 hX, kxa_7 hX, kxa_8 hX, kxa_9 hX, kxa_10 hX, kxa_18 hX, kxa_20 hX, kxa_21 hX, kxa_22 hX, kxa_23 hX, kxa_26 hX, kxa_27 hX, kxr_5 hX, kxr_11 hX, kxr_28 hX, T_X1_directions]
  unfold jturn at hT
  refine ⟨fun c => ⟨fun c2 => ?_, fun c2 => ?_⟩, fun c => ?_⟩
  · rw [if_neg (Int32.not_lt.mpr c), if_neg (Int32.not_lt.mpr c2)] at hT
    exact hT
  · rw [if_neg (Int32.not_lt.mpr c), if_pos (Int32.not_le.mp c2)] at hT
    exact hT
  · rw [if_pos (Int32.not_le.mp c)] at hT
    exact hT
theorem m_X1_turned (l : Launch) : jHolds vwCl l yX1_turned wsX1_turned 1 20 0 0 T_X1_turned := by
  refine m_X1_turned_of l (fun G Q vs K h H0 hT => ?_)
  unfold T_X1_turned at hT
  split at hT
  · obtain ⟨rfl, hT⟩ := hT
    exact ⟨Nat.le_of_ble_eq_true rfl, v_X1_turned hT H0⟩
  · exact hT.elim

/-! X1_restart -/
def T_X1_restart : jT := fun vs K h Q => match vs with
  | [.ref r0, .int k, .int n] => r0 = 1 ∧ (jX K ∧ Q none K (upr (upr (up2 (up2 h 1 0 k) 1 1 n) 2 (jfill 57600 0 (h 2))) 3 (jfill 57600 0 (h 3))))
  | _ => False
def sg_X1_restart_0 : jS := [(o_aload 0, 1), (o_iload 1, 1), (o_putf 1 0, 3), (o_aload 0, 1), (o_iload 2, 1), (o_putf 1 1, 3), (o_aload 0, 1), (o_getf 1 2, 3), (o_ic (0), 1), (o_call 2 T_J7_fill_53178, 3), (o_aload 0, 1), (o_getf 1 3, 3), (o_ic (0), 1), (o_call 2 T_J7_fill_53178, 3), (o_vret, 1)]
def cd_X1_restart : Nat → jS := fun t => match t with
  | _ => []
theorem wl_X1_restart_9 : Cond.fieldLink RX1 9 (TX1 0).1 (TX1 0).2.1 (TX1 0).2.2.1 ∈ wsX1_restart := by decide +kernel
theorem wl_X1_restart_15 : Cond.fieldLink RX1 15 (TX1 1).1 (TX1 1).2.1 (TX1 1).2.2.1 ∈ wsX1_restart := by decide +kernel
theorem wl_X1_restart_19 : Cond.fieldLink RX1 19 (TX1 2).1 (TX1 2).2.1 (TX1 2).2.2.1 ∈ wsX1_restart := by decide +kernel
theorem wl_X1_restart_23 : Cond.fieldLink RX1 23 (TX1 3).1 (TX1 3).2.1 (TX1 3).2.2.1 ∈ wsX1_restart := by decide +kernel
theorem wi_X1_restart_X1 : ∀ w ∈ u_ws RX1 TX1 4, w ∈ wsX1_restart := by decide +kernel
def E_X1_restart (Γ : jΓ) (Q : jPost) : Prop := Γ.2.2.2.2.2.2.2.2.2.2.1 = 3 ∧ Γ.2.2.2.2.2.2.2.2.2.2.2.1 = vwCl ∧ jC Γ cX1_restart RX1 "restart" none wsX1_restart 1 23 0 0 ∧ jR Γ Q 0 0
theorem oo_X1_restart_0 {Γ : jΓ} {Q : jPost} (E : E_X1_restart Γ Q) : jSA Γ Q 0 (o_aload 0) 1 := so_aload_n E.2.2.1 rfl dX1_restart_0
theorem oo_X1_restart_1 {Γ : jΓ} {Q : jPost} (E : E_X1_restart Γ Q) : jSA Γ Q 1 (o_iload 1) 1 := so_iload_n E.2.2.1 rfl dX1_restart_1
theorem oo_X1_restart_2 {Γ : jΓ} {Q : jPost} (E : E_X1_restart Γ Q) : jSA Γ Q 2 (o_putf 1 0) 3 := so_putf (ci := 1) E.2.2.1 tyX1 tyX1_ok nmX1 wi_X1_restart_X1 (by rw [E.2.1]; rfl) 0 (by decide) wl_X1_restart_9 rfl (by decide +kernel) dX1_restart_2
theorem oo_X1_restart_5 {Γ : jΓ} {Q : jPost} (E : E_X1_restart Γ Q) : jSA Γ Q 5 (o_aload 0) 1 := so_aload_n E.2.2.1 rfl dX1_restart_5
theorem oo_X1_restart_6 {Γ : jΓ} {Q : jPost} (E : E_X1_restart Γ Q) : jSA Γ Q 6 (o_iload 2) 1 := so_iload_n E.2.2.1 rfl dX1_restart_6
theorem oo_X1_restart_7 {Γ : jΓ} {Q : jPost} (E : E_X1_restart Γ Q) : jSA Γ Q 7 (o_putf 1 1) 3 := so_putf (ci := 1) E.2.2.1 tyX1 tyX1_ok nmX1 wi_X1_restart_X1 (by rw [E.2.1]; rfl) 1 (by decide) wl_X1_restart_15 rfl (by decide +kernel) dX1_restart_7
theorem oo_X1_restart_10 {Γ : jΓ} {Q : jPost} (E : E_X1_restart Γ Q) : jSA Γ Q 10 (o_aload 0) 1 := so_aload_n E.2.2.1 rfl dX1_restart_10
theorem oo_X1_restart_11 {Γ : jΓ} {Q : jPost} (E : E_X1_restart Γ Q) : jSA Γ Q 11 (o_getf 1 2) 3 := so_getf (ci := 1) E.2.2.1 wi_X1_restart_X1 (by rw [E.2.1]; rfl) 2 (by decide) wl_X1_restart_19 dX1_restart_11
theorem oo_X1_restart_14 {Γ : jΓ} {Q : jPost} (E : E_X1_restart Γ Q) : jSA Γ Q 14 (o_ic (0)) 1 := so_iconst E.2.2.1 rfl dX1_restart_14
theorem oo_X1_restart_15 {Γ : jΓ} {Q : jPost} (E : E_X1_restart Γ Q) : jSA Γ Q 15 (o_call 2 T_J7_fill_53178) 3 := so_callS E.2.2.1 gX1_restart_J7_fill_53178 (by decide +kernel) rfl (by rw [E.2.1]; exact m_J7_fill_53178 _) (by decide) (by decide) dX1_restart_15
theorem oo_X1_restart_18 {Γ : jΓ} {Q : jPost} (E : E_X1_restart Γ Q) : jSA Γ Q 18 (o_aload 0) 1 := so_aload_n E.2.2.1 rfl dX1_restart_18
theorem oo_X1_restart_19 {Γ : jΓ} {Q : jPost} (E : E_X1_restart Γ Q) : jSA Γ Q 19 (o_getf 1 3) 3 := so_getf (ci := 1) E.2.2.1 wi_X1_restart_X1 (by rw [E.2.1]; rfl) 3 (by decide) wl_X1_restart_23 dX1_restart_19
theorem oo_X1_restart_22 {Γ : jΓ} {Q : jPost} (E : E_X1_restart Γ Q) : jSA Γ Q 22 (o_ic (0)) 1 := so_iconst E.2.2.1 rfl dX1_restart_22
theorem oo_X1_restart_23 {Γ : jΓ} {Q : jPost} (E : E_X1_restart Γ Q) : jSA Γ Q 23 (o_call 2 T_J7_fill_53178) 3 := so_callS E.2.2.1 gX1_restart_J7_fill_53178 (by decide +kernel) rfl (by rw [E.2.1]; exact m_J7_fill_53178 _) (by decide) (by decide) dX1_restart_23
theorem oo_X1_restart_26 {Γ : jΓ} {Q : jPost} (E : E_X1_restart Γ Q) : jSA Γ Q 26 (o_vret) 1 := so_vret E.2.2.1 E.2.2.2 dX1_restart_26
theorem ok_X1_restart_0 {Γ : jΓ} {Q : jPost} (E : E_X1_restart Γ Q) : jSS Γ Q 0 sg_X1_restart_0 := ⟨oo_X1_restart_0 E, oo_X1_restart_1 E, oo_X1_restart_2 E, oo_X1_restart_5 E, oo_X1_restart_6 E, oo_X1_restart_7 E, oo_X1_restart_10 E, oo_X1_restart_11 E, oo_X1_restart_14 E, oo_X1_restart_15 E, oo_X1_restart_18 E, oo_X1_restart_19 E, oo_X1_restart_22 E, oo_X1_restart_23 E, oo_X1_restart_26 E, trivial⟩
theorem okc_X1_restart {Γ : jΓ} {Q : jPost} (E : E_X1_restart Γ Q) (t : Nat) : jSS Γ Q t (cd_X1_restart t) := by
  unfold cd_X1_restart
  trivial
theorem m_X1_restart_of (l : Launch) (hv : ∀ (G : jGt) (Q : jPost) (vs : List Value) (K : List jK) (h : jM), jHd cd_X1_restart G Q sg_X1_restart_0 0 → T_X1_restart vs K h Q → (lg_sl vs).length ≤ 3 ∧ G 0 (jinit vs 3) [] K h 0 0) : jHolds vwCl l yX1_restart wsX1_restart 1 23 0 0 T_X1_restart := by
  refine jMet (cc := cX1_restart) (maxL := 3) (rt := none) (by decide +kernel) rfl (fun Γ Q vs K h hl hn hcl C hR hT => hv (jG Γ) Q vs K h ?_ hT)
  · exact fun n L st K h ce sl => jwp_ok (okc_X1_restart ⟨hn, hcl, C, hR⟩) n sg_X1_restart_0 0 (ok_X1_restart_0 ⟨hn, hcl, C, hR⟩) L st K h ce sl
set_option maxHeartbeats 4000000 in
set_option maxRecDepth 100000 in
theorem v_X1_restart {G : jGt} {Q : jPost} {K : List jK} {h : jM} {k : Int32} {n : Int32} (hT : jX K ∧ Q none K (upr (upr (up2 (up2 h 1 0 k) 1 1 n) 2 (jfill 57600 0 (h 2))) 3 (jfill 57600 0 (h 3)))) (H0 : jHd cd_X1_restart G Q sg_X1_restart_0 0) : G 0 [some (.ref 1), some (.int k), some (.int n)] [] K h 0 0 := by
  obtain ⟨hX, hT⟩ := hT
  refine H0 30 _ _ _ _ _ _ ?_
  simp only [sg_X1_restart_0, cd_X1_restart, jwp, o_ic, o_lc, o_iload, o_lload, o_aload, o_istore, o_lstore, o_astore, o_iinc, o_pop, o_dup, o_dup2, o_iadd, o_isub, o_imul, o_iand, o_ior, o_ishl, o_ladd, o_lmul, o_land, o_lor, o_idiv, o_irem, o_ineg, o_i2l, o_l2i, o_i2b, o_i2s, o_lushr, o_lshr, o_lshl, o_lcmp, o_ifeq, o_ifne, o_iflt, o_ifge, o_ifgt, o_ifle, o_iceq, o_icne, o_iclt, o_icge, o_icgt, o_icle, o_goto, o_tsw, jsw, o_lsw, jlk, o_getf, o_putf, o_putz, o_iald, o_zald, o_iast, o_zast, o_aald, o_alen, o_gets, o_zld, o_zlen, o_cpy, o_call, o_callV, o_ireti, o_iretz, o_lret, o_vret, jg, js, jkp, jkill, jsp, jcs, jfw, jov, Value.category, Option.toList_some, Option.toList_none, List.nil_append, List.cons_append, List.append_nil, Nat.reduceAdd, true_and, and_true, jb0, jb01, jb1, jem, true_or, or_true, Classical.not_not, forall_const, List.length_cons, List.length_nil, Nat.reduceLeDiff, Nat.zero_le, Nat.reduceLT, hX, kx_0_0 hX, kx_0_1 hX, kx_0_2 hX, kx_0_3 hX, kx_0_4 hX, kx_0_5 hX, kx_0_6 hX, kx_0_7 hX, kx_0_8 hX, kxo_0 hX, kx_1_0 hX, kx_1_1 hX, kx_1_2 hX, kx_1_3 hX, kxo_1 hX, kx_4_0 hX, kx_4_1 hX, kx_4_2 hX, kxo_4 hX, kx_19_0 hX, kx_19_1 hX, kx_19_2 hX, kx_19_3 hX, kx_19_4 hX, kxo_19 hX, kx_24_0 hX, kx_24_1 hX, kx_24_2 hX, kx_24_3 hX, kx_24_4 hX, kx_24_5 hX, kx_24_6 hX, kxo_24 hX, kxa_2 hX, kxa_3 hX, kxa_6 hX, kxa_7 hX, kxa_8 hX, kxa_9 hX, kxa_10 hX, kxa_18 hX, kxa_20 hX, kxa_21 hX, kxa_22 hX, kxa_23 hX, kxa_26 hX, kxa_27 hX, kxr_5 hX, kxr_11 hX, kxr_28 hX, T_J7_fill_53178]
  exact hT
theorem m_X1_restart (l : Launch) : jHolds vwCl l yX1_restart wsX1_restart 1 23 0 0 T_X1_restart := by
  refine m_X1_restart_of l (fun G Q vs K h H0 hT => ?_)
  unfold T_X1_restart at hT
  split at hT
  · obtain ⟨rfl, hT⟩ := hT
    exact ⟨Nat.le_of_ble_eq_true rfl, v_X1_restart hT H0⟩
  · exact hT.elim

/-! X2_spoil -/
def T_X2_spoil : jT := fun vs K h Q => match vs with
  | [.ref r0] => r0 = 24 ∧ (jX K ∧ Q none K (up2 h 24 1 1))
  | _ => False
def sg_X2_spoil_0 : jS := [(o_aload 0, 1), (o_ic (1), 1), (o_putz 2 1, 3), (o_vret, 1)]
def cd_X2_spoil : Nat → jS := fun t => match t with
  | _ => []
theorem wl_X2_spoil_30 : Cond.fieldLink RX2 30 (TX2 1).1 (TX2 1).2.1 (TX2 1).2.2.1 ∈ wsX2_spoil := by decide +kernel
theorem wi_X2_spoil_X2 : ∀ w ∈ u_ws RX2 TX2 7, w ∈ wsX2_spoil := by decide +kernel
def E_X2_spoil (Γ : jΓ) (Q : jPost) : Prop := Γ.2.2.2.2.2.2.2.2.2.2.1 = 1 ∧ Γ.2.2.2.2.2.2.2.2.2.2.2.1 = vwCl ∧ jC Γ cX2_spoil RX2 "spoil" none wsX2_spoil 0 0 0 0 ∧ jR Γ Q 0 0
theorem oo_X2_spoil_0 {Γ : jΓ} {Q : jPost} (E : E_X2_spoil Γ Q) : jSA Γ Q 0 (o_aload 0) 1 := so_aload_n E.2.2.1 rfl dX2_spoil_0
theorem oo_X2_spoil_1 {Γ : jΓ} {Q : jPost} (E : E_X2_spoil Γ Q) : jSA Γ Q 1 (o_ic (1)) 1 := so_iconst E.2.2.1 rfl dX2_spoil_1
theorem oo_X2_spoil_2 {Γ : jΓ} {Q : jPost} (E : E_X2_spoil Γ Q) : jSA Γ Q 2 (o_putz 2 1) 3 := so_putz (ci := 2) E.2.2.1 tyX2 tyX2_ok nmX2 wi_X2_spoil_X2 (by rw [E.2.1]; rfl) 1 (by decide) wl_X2_spoil_30 rfl (by decide +kernel) dX2_spoil_2
theorem oo_X2_spoil_5 {Γ : jΓ} {Q : jPost} (E : E_X2_spoil Γ Q) : jSA Γ Q 5 (o_vret) 1 := so_vret E.2.2.1 E.2.2.2 dX2_spoil_5
theorem ok_X2_spoil_0 {Γ : jΓ} {Q : jPost} (E : E_X2_spoil Γ Q) : jSS Γ Q 0 sg_X2_spoil_0 := ⟨oo_X2_spoil_0 E, oo_X2_spoil_1 E, oo_X2_spoil_2 E, oo_X2_spoil_5 E, trivial⟩
theorem okc_X2_spoil {Γ : jΓ} {Q : jPost} (E : E_X2_spoil Γ Q) (t : Nat) : jSS Γ Q t (cd_X2_spoil t) := by
  unfold cd_X2_spoil
  trivial
theorem m_X2_spoil_of (l : Launch) (hv : ∀ (G : jGt) (Q : jPost) (vs : List Value) (K : List jK) (h : jM), jHd cd_X2_spoil G Q sg_X2_spoil_0 0 → T_X2_spoil vs K h Q → (lg_sl vs).length ≤ 1 ∧ G 0 (jinit vs 1) [] K h 0 0) : jHolds vwCl l yX2_spoil wsX2_spoil 0 0 0 0 T_X2_spoil := by
  refine jMet (cc := cX2_spoil) (maxL := 1) (rt := none) (by decide +kernel) rfl (fun Γ Q vs K h hl hn hcl C hR hT => hv (jG Γ) Q vs K h ?_ hT)
  · exact fun n L st K h ce sl => jwp_ok (okc_X2_spoil ⟨hn, hcl, C, hR⟩) n sg_X2_spoil_0 0 (ok_X2_spoil_0 ⟨hn, hcl, C, hR⟩) L st K h ce sl
set_option maxHeartbeats 4000000 in
set_option maxRecDepth 100000 in
theorem v_X2_spoil {G : jGt} {Q : jPost} {K : List jK} {h : jM}  (hT : jX K ∧ Q none K (up2 h 24 1 1)) (H0 : jHd cd_X2_spoil G Q sg_X2_spoil_0 0) : G 0 [some (.ref 24)] [] K h 0 0 := by
  obtain ⟨hX, hT⟩ := hT
  refine H0 30 _ _ _ _ _ _ ?_
  simp only [sg_X2_spoil_0, cd_X2_spoil, jwp, o_ic, o_lc, o_iload, o_lload, o_aload, o_istore, o_lstore, o_astore, o_iinc, o_pop, o_dup, o_dup2, o_iadd, o_isub, o_imul, o_iand, o_ior, o_ishl, o_ladd, o_lmul, o_land, o_lor, o_idiv, o_irem, o_ineg, o_i2l, o_l2i, o_i2b, o_i2s, o_lushr, o_lshr, o_lshl, o_lcmp, o_ifeq, o_ifne, o_iflt, o_ifge, o_ifgt, o_ifle, o_iceq, o_icne, o_iclt, o_icge, o_icgt, o_icle, o_goto, o_tsw, jsw, o_lsw, jlk, o_getf, o_putf, o_putz, o_iald, o_zald, o_iast, o_zast, o_aald, o_alen, o_gets, o_zld, o_zlen, o_cpy, o_call, o_callV, o_ireti, o_iretz, o_lret, o_vret, jg, js, jkp, jkill, jsp, jcs, jfw, jov, Value.category, Option.toList_some, Option.toList_none, List.nil_append, List.cons_append, List.append_nil, Nat.reduceAdd, true_and, and_true, jb0, jb01, jb1, jem, true_or, or_true, Classical.not_not, forall_const, List.length_cons, List.length_nil, Nat.reduceLeDiff, Nat.zero_le, Nat.reduceLT, hX, kx_0_0 hX, kx_0_1 hX, kx_0_2 hX, kx_0_3 hX, kx_0_4 hX, kx_0_5 hX, kx_0_6 hX, kx_0_7 hX, kx_0_8 hX, kxo_0 hX, kx_1_0 hX, kx_1_1 hX, kx_1_2 hX, kx_1_3 hX, kxo_1 hX, kx_4_0 hX, kx_4_1 hX, kx_4_2 hX, kxo_4 hX, kx_19_0 hX, kx_19_1 hX, kx_19_2 hX, kx_19_3 hX, kx_19_4 hX, kxo_19 hX, kx_24_0 hX, kx_24_1 hX, kx_24_2 hX, kx_24_3 hX, kx_24_4 hX, kx_24_5 hX, kx_24_6 hX, kxo_24 hX, kxa_2 hX, kxa_3 hX, kxa_6 hX, kxa_7 hX, kxa_8 hX, kxa_9 hX, kxa_10 hX, kxa_18 hX, kxa_20 hX, kxa_21 hX, kxa_22 hX, kxa_23 hX, kxa_26 hX, kxa_27 hX, kxr_5 hX, kxr_11 hX, kxr_28 hX]
  first | exact hT | exact ⟨by simp, hT⟩
theorem m_X2_spoil (l : Launch) : jHolds vwCl l yX2_spoil wsX2_spoil 0 0 0 0 T_X2_spoil := by
  refine m_X2_spoil_of l (fun G Q vs K h H0 hT => ?_)
  unfold T_X2_spoil at hT
  split at hT
  · obtain ⟨rfl, hT⟩ := hT
    exact ⟨Nat.le_of_ble_eq_true rfl, v_X2_spoil hT H0⟩
  · exact hT.elim

/-! X2_forget -/
def T_X2_forget : jT := fun vs K h Q => match vs with
  | [.ref r0] => r0 = 24 ∧ (jX K ∧ Q none K (up2 h 24 0 0))
  | _ => False
def sg_X2_forget_0 : jS := [(o_aload 0, 1), (o_ic (0), 1), (o_putz 2 0, 3), (o_vret, 1)]
def cd_X2_forget : Nat → jS := fun t => match t with
  | _ => []
theorem wl_X2_forget_26 : Cond.fieldLink RX2 26 (TX2 0).1 (TX2 0).2.1 (TX2 0).2.2.1 ∈ wsX2_forget := by decide +kernel
theorem wi_X2_forget_X2 : ∀ w ∈ u_ws RX2 TX2 7, w ∈ wsX2_forget := by decide +kernel
def E_X2_forget (Γ : jΓ) (Q : jPost) : Prop := Γ.2.2.2.2.2.2.2.2.2.2.1 = 1 ∧ Γ.2.2.2.2.2.2.2.2.2.2.2.1 = vwCl ∧ jC Γ cX2_forget RX2 "forget" none wsX2_forget 0 0 0 0 ∧ jR Γ Q 0 0
theorem oo_X2_forget_0 {Γ : jΓ} {Q : jPost} (E : E_X2_forget Γ Q) : jSA Γ Q 0 (o_aload 0) 1 := so_aload_n E.2.2.1 rfl dX2_forget_0
theorem oo_X2_forget_1 {Γ : jΓ} {Q : jPost} (E : E_X2_forget Γ Q) : jSA Γ Q 1 (o_ic (0)) 1 := so_iconst E.2.2.1 rfl dX2_forget_1
theorem oo_X2_forget_2 {Γ : jΓ} {Q : jPost} (E : E_X2_forget Γ Q) : jSA Γ Q 2 (o_putz 2 0) 3 := so_putz (ci := 2) E.2.2.1 tyX2 tyX2_ok nmX2 wi_X2_forget_X2 (by rw [E.2.1]; rfl) 0 (by decide) wl_X2_forget_26 rfl (by decide +kernel) dX2_forget_2
theorem oo_X2_forget_5 {Γ : jΓ} {Q : jPost} (E : E_X2_forget Γ Q) : jSA Γ Q 5 (o_vret) 1 := so_vret E.2.2.1 E.2.2.2 dX2_forget_5
theorem ok_X2_forget_0 {Γ : jΓ} {Q : jPost} (E : E_X2_forget Γ Q) : jSS Γ Q 0 sg_X2_forget_0 := ⟨oo_X2_forget_0 E, oo_X2_forget_1 E, oo_X2_forget_2 E, oo_X2_forget_5 E, trivial⟩
theorem okc_X2_forget {Γ : jΓ} {Q : jPost} (E : E_X2_forget Γ Q) (t : Nat) : jSS Γ Q t (cd_X2_forget t) := by
  unfold cd_X2_forget
  trivial
theorem m_X2_forget_of (l : Launch) (hv : ∀ (G : jGt) (Q : jPost) (vs : List Value) (K : List jK) (h : jM), jHd cd_X2_forget G Q sg_X2_forget_0 0 → T_X2_forget vs K h Q → (lg_sl vs).length ≤ 1 ∧ G 0 (jinit vs 1) [] K h 0 0) : jHolds vwCl l yX2_forget wsX2_forget 0 0 0 0 T_X2_forget := by
  refine jMet (cc := cX2_forget) (maxL := 1) (rt := none) (by decide +kernel) rfl (fun Γ Q vs K h hl hn hcl C hR hT => hv (jG Γ) Q vs K h ?_ hT)
  · exact fun n L st K h ce sl => jwp_ok (okc_X2_forget ⟨hn, hcl, C, hR⟩) n sg_X2_forget_0 0 (ok_X2_forget_0 ⟨hn, hcl, C, hR⟩) L st K h ce sl
set_option maxHeartbeats 4000000 in
set_option maxRecDepth 100000 in
theorem v_X2_forget {G : jGt} {Q : jPost} {K : List jK} {h : jM}  (hT : jX K ∧ Q none K (up2 h 24 0 0)) (H0 : jHd cd_X2_forget G Q sg_X2_forget_0 0) : G 0 [some (.ref 24)] [] K h 0 0 := by
  obtain ⟨hX, hT⟩ := hT
  refine H0 30 _ _ _ _ _ _ ?_
  simp only [sg_X2_forget_0, cd_X2_forget, jwp, o_ic, o_lc, o_iload, o_lload, o_aload, o_istore, o_lstore, o_astore, o_iinc, o_pop, o_dup, o_dup2, o_iadd, o_isub, o_imul, o_iand, o_ior, o_ishl, o_ladd, o_lmul, o_land, o_lor, o_idiv, o_irem, o_ineg, o_i2l, o_l2i, o_i2b, o_i2s, o_lushr, o_lshr, o_lshl, o_lcmp, o_ifeq, o_ifne, o_iflt, o_ifge, o_ifgt, o_ifle, o_iceq, o_icne, o_iclt, o_icge, o_icgt, o_icle, o_goto, o_tsw, jsw, o_lsw, jlk, o_getf, o_putf, o_putz, o_iald, o_zald, o_iast, o_zast, o_aald, o_alen, o_gets, o_zld, o_zlen, o_cpy, o_call, o_callV, o_ireti, o_iretz, o_lret, o_vret, jg, js, jkp, jkill, jsp, jcs, jfw, jov, Value.category, Option.toList_some, Option.toList_none, List.nil_append, List.cons_append, List.append_nil, Nat.reduceAdd, true_and, and_true, jb0, jb01, jb1, jem, true_or, or_true, Classical.not_not, forall_const, List.length_cons, List.length_nil, Nat.reduceLeDiff, Nat.zero_le, Nat.reduceLT, hX, kx_0_0 hX, kx_0_1 hX, kx_0_2 hX, kx_0_3 hX, kx_0_4 hX, kx_0_5 hX, kx_0_6 hX, kx_0_7 hX, kx_0_8 hX, kxo_0 hX, kx_1_0 hX, kx_1_1 hX, kx_1_2 hX, kx_1_3 hX, kxo_1 hX, kx_4_0 hX, kx_4_1 hX, kx_4_2 hX, kxo_4 hX, kx_19_0 hX, kx_19_1 hX, kx_19_2 hX, kx_19_3 hX, kx_19_4 hX, kxo_19 hX, kx_24_0 hX, kx_24_1 hX, kx_24_2 hX, kx_24_3 hX, kx_24_4 hX, kx_24_5 hX, kx_24_6 hX, kxo_24 hX, kxa_2 hX, kxa_3 hX, kxa_6 hX, kxa_7 hX, kxa_8 hX, kxa_9 hX, kxa_10 hX, kxa_18 hX, kxa_20 hX, kxa_21 hX, kxa_22 hX, kxa_23 hX, kxa_26 hX, kxa_27 hX, kxr_5 hX, kxr_11 hX, kxr_28 hX]
  first | exact hT | exact ⟨by simp, hT⟩
theorem m_X2_forget (l : Launch) : jHolds vwCl l yX2_forget wsX2_forget 0 0 0 0 T_X2_forget := by
  refine m_X2_forget_of l (fun G Q vs K h H0 hT => ?_)
  unfold T_X2_forget at hT
  split at hT
  · obtain ⟨rfl, hT⟩ := hT
    exact ⟨Nat.le_of_ble_eq_true rfl, v_X2_forget hT H0⟩
  · exact hT.elim

/-! X3_forget -/
def T_X3_forget : jT := fun vs K h Q => match vs with
  | [.ref r0] => r0 = 19 ∧ (jX K ∧ Q none K (up2 h 19 0 0))
  | _ => False
def sg_X3_forget_0 : jS := [(o_aload 0, 1), (o_ic (0), 1), (o_putf 3 0, 3), (o_vret, 1)]
def cd_X3_forget : Nat → jS := fun t => match t with
  | _ => []
theorem wl_X3_forget_24 : Cond.fieldLink RX3 24 (TX3 0).1 (TX3 0).2.1 (TX3 0).2.2.1 ∈ wsX3_forget := by decide +kernel
theorem wi_X3_forget_X3 : ∀ w ∈ u_ws RX3 TX3 5, w ∈ wsX3_forget := by decide +kernel
def E_X3_forget (Γ : jΓ) (Q : jPost) : Prop := Γ.2.2.2.2.2.2.2.2.2.2.1 = 1 ∧ Γ.2.2.2.2.2.2.2.2.2.2.2.1 = vwCl ∧ jC Γ cX3_forget RX3 "forget" none wsX3_forget 0 0 0 0 ∧ jR Γ Q 0 0
theorem oo_X3_forget_0 {Γ : jΓ} {Q : jPost} (E : E_X3_forget Γ Q) : jSA Γ Q 0 (o_aload 0) 1 := so_aload_n E.2.2.1 rfl dX3_forget_0
theorem oo_X3_forget_1 {Γ : jΓ} {Q : jPost} (E : E_X3_forget Γ Q) : jSA Γ Q 1 (o_ic (0)) 1 := so_iconst E.2.2.1 rfl dX3_forget_1
theorem oo_X3_forget_2 {Γ : jΓ} {Q : jPost} (E : E_X3_forget Γ Q) : jSA Γ Q 2 (o_putf 3 0) 3 := so_putf (ci := 3) E.2.2.1 tyX3 tyX3_ok nmX3 wi_X3_forget_X3 (by rw [E.2.1]; rfl) 0 (by decide) wl_X3_forget_24 rfl (by decide +kernel) dX3_forget_2
theorem oo_X3_forget_5 {Γ : jΓ} {Q : jPost} (E : E_X3_forget Γ Q) : jSA Γ Q 5 (o_vret) 1 := so_vret E.2.2.1 E.2.2.2 dX3_forget_5
theorem ok_X3_forget_0 {Γ : jΓ} {Q : jPost} (E : E_X3_forget Γ Q) : jSS Γ Q 0 sg_X3_forget_0 := ⟨oo_X3_forget_0 E, oo_X3_forget_1 E, oo_X3_forget_2 E, oo_X3_forget_5 E, trivial⟩
theorem okc_X3_forget {Γ : jΓ} {Q : jPost} (E : E_X3_forget Γ Q) (t : Nat) : jSS Γ Q t (cd_X3_forget t) := by
  unfold cd_X3_forget
  trivial
theorem m_X3_forget_of (l : Launch) (hv : ∀ (G : jGt) (Q : jPost) (vs : List Value) (K : List jK) (h : jM), jHd cd_X3_forget G Q sg_X3_forget_0 0 → T_X3_forget vs K h Q → (lg_sl vs).length ≤ 1 ∧ G 0 (jinit vs 1) [] K h 0 0) : jHolds vwCl l yX3_forget wsX3_forget 0 0 0 0 T_X3_forget := by
  refine jMet (cc := cX3_forget) (maxL := 1) (rt := none) (by decide +kernel) rfl (fun Γ Q vs K h hl hn hcl C hR hT => hv (jG Γ) Q vs K h ?_ hT)
  · exact fun n L st K h ce sl => jwp_ok (okc_X3_forget ⟨hn, hcl, C, hR⟩) n sg_X3_forget_0 0 (ok_X3_forget_0 ⟨hn, hcl, C, hR⟩) L st K h ce sl
set_option maxHeartbeats 4000000 in
set_option maxRecDepth 100000 in
theorem v_X3_forget {G : jGt} {Q : jPost} {K : List jK} {h : jM}  (hT : jX K ∧ Q none K (up2 h 19 0 0)) (H0 : jHd cd_X3_forget G Q sg_X3_forget_0 0) : G 0 [some (.ref 19)] [] K h 0 0 := by
  obtain ⟨hX, hT⟩ := hT
  refine H0 30 _ _ _ _ _ _ ?_
  simp only [sg_X3_forget_0, cd_X3_forget, jwp, o_ic, o_lc, o_iload, o_lload, o_aload, o_istore, o_lstore, o_astore, o_iinc, o_pop, o_dup, o_dup2, o_iadd, o_isub, o_imul, o_iand, o_ior, o_ishl, o_ladd, o_lmul, o_land, o_lor, o_idiv, o_irem, o_ineg, o_i2l, o_l2i, o_i2b, o_i2s, o_lushr, o_lshr, o_lshl, o_lcmp, o_ifeq, o_ifne, o_iflt, o_ifge, o_ifgt, o_ifle, o_iceq, o_icne, o_iclt, o_icge, o_icgt, o_icle, o_goto, o_tsw, jsw, o_lsw, jlk, o_getf, o_putf, o_putz, o_iald, o_zald, o_iast, o_zast, o_aald, o_alen, o_gets, o_zld, o_zlen, o_cpy, o_call, o_callV, o_ireti, o_iretz, o_lret, o_vret, jg, js, jkp, jkill, jsp, jcs, jfw, jov, Value.category, Option.toList_some, Option.toList_none, List.nil_append, List.cons_append, List.append_nil, Nat.reduceAdd, true_and, and_true, jb0, jb01, jb1, jem, true_or, or_true, Classical.not_not, forall_const, List.length_cons, List.length_nil, Nat.reduceLeDiff, Nat.zero_le, Nat.reduceLT, hX, kx_0_0 hX, kx_0_1 hX, kx_0_2 hX, kx_0_3 hX, kx_0_4 hX, kx_0_5 hX, kx_0_6 hX, kx_0_7 hX, kx_0_8 hX, kxo_0 hX, kx_1_0 hX, kx_1_1 hX, kx_1_2 hX, kx_1_3 hX, kxo_1 hX, kx_4_0 hX, kx_4_1 hX, kx_4_2 hX, kxo_4 hX, kx_19_0 hX, kx_19_1 hX, kx_19_2 hX, kx_19_3 hX, kx_19_4 hX, kxo_19 hX, kx_24_0 hX, kx_24_1 hX, kx_24_2 hX, kx_24_3 hX, kx_24_4 hX, kx_24_5 hX, kx_24_6 hX, kxo_24 hX, kxa_2 hX, kxa_3 hX, kxa_6 hX, kxa_7 hX, kxa_8 hX, kxa_9 hX, kxa_10 hX, kxa_18 hX, kxa_20 hX, kxa_21 hX, kxa_22 hX, kxa_23 hX, kxa_26 hX, kxa_27 hX, kxr_5 hX, kxr_11 hX, kxr_28 hX]
  exact hT
theorem m_X3_forget (l : Launch) : jHolds vwCl l yX3_forget wsX3_forget 0 0 0 0 T_X3_forget := by
  refine m_X3_forget_of l (fun G Q vs K h H0 hT => ?_)
  unfold T_X3_forget at hT
  split at hT
  · obtain ⟨rfl, hT⟩ := hT
    exact ⟨Nat.le_of_ble_eq_true rfl, v_X3_forget hT H0⟩
  · exact hT.elim



/-! X3_keep -/
def jkeep (h : jM) (w x y b : Int32) : jM := if h 19 0 < 60 then up2 (up2 (up2 (up2 (up2 h 20 (h 19 0).toNatClampNeg w) 21 (h 19 0).toNatClampNeg x) 22 (h 19 0).toNatClampNeg y) 23 (h 19 0).toNatClampNeg b) 19 0 (h 19 0 + 1) else up2 h 19 0 (h 19 0 + 1)
def T_X3_keep : jT := fun vs K h Q => match vs with
  | [.ref r0, .int w, .int x, .int y, .int b] => r0 = 19 ∧ (jX K ∧ 0 ≤ (h 19 0).toInt ∧ Q none K (jkeep h w x y b))
  | _ => False
def sg_X3_keep_0 : jS := [(o_aload 0, 1), (o_getf 3 0, 3), (o_ic (60), 2), (o_icge 50, 3), (o_aload 0, 1), (o_getf 3 1, 3), (o_aload 0, 1), (o_getf 3 0, 3), (o_iload 1, 1), (o_iast, 1), (o_aload 0, 1), (o_getf 3 2, 3), (o_aload 0, 1), (o_getf 3 0, 3), (o_iload 2, 1), (o_iast, 1), (o_aload 0, 1), (o_getf 3 3, 3), (o_aload 0, 1), (o_getf 3 0, 3), (o_iload 3, 1), (o_iast, 1), (o_aload 0, 1), (o_getf 3 4, 3), (o_aload 0, 1), (o_getf 3 0, 3), (o_iload 4, 2), (o_iast, 1), (o_aload 0, 1), (o_dup, 1), (o_getf 3 0, 3), (o_ic (1), 1), (o_iadd, 1), (o_putf 3 0, 3), (o_vret, 1)]
def sg_X3_keep_50 : jS := [(o_aload 0, 1), (o_dup, 1), (o_getf 3 0, 3), (o_ic (1), 1), (o_iadd, 1), (o_putf 3 0, 3), (o_vret, 1)]
def cd_X3_keep : Nat → jS := fun t => match t with
  | 50 => sg_X3_keep_50
  | _ => []
theorem wl_X3_keep_9 : Cond.fieldLink RX3 9 (TX3 1).1 (TX3 1).2.1 (TX3 1).2.2.1 ∈ wsX3_keep := by decide +kernel
theorem wl_X3_keep_15 : Cond.fieldLink RX3 15 (TX3 2).1 (TX3 2).2.1 (TX3 2).2.2.1 ∈ wsX3_keep := by decide +kernel
theorem wl_X3_keep_18 : Cond.fieldLink RX3 18 (TX3 3).1 (TX3 3).2.1 (TX3 3).2.2.1 ∈ wsX3_keep := by decide +kernel
theorem wl_X3_keep_21 : Cond.fieldLink RX3 21 (TX3 4).1 (TX3 4).2.1 (TX3 4).2.2.1 ∈ wsX3_keep := by decide +kernel
theorem wl_X3_keep_24 : Cond.fieldLink RX3 24 (TX3 0).1 (TX3 0).2.1 (TX3 0).2.2.1 ∈ wsX3_keep := by decide +kernel
theorem wi_X3_keep_X3 : ∀ w ∈ u_ws RX3 TX3 5, w ∈ wsX3_keep := by decide +kernel
def E_X3_keep (Γ : jΓ) (Q : jPost) : Prop := Γ.2.2.2.2.2.2.2.2.2.2.1 = 5 ∧ Γ.2.2.2.2.2.2.2.2.2.2.2.1 = vwCl ∧ jC Γ cX3_keep RX3 "keep" none wsX3_keep 0 0 0 0 ∧ jR Γ Q 0 0
theorem oo_X3_keep_0 {Γ : jΓ} {Q : jPost} (E : E_X3_keep Γ Q) : jSA Γ Q 0 (o_aload 0) 1 := so_aload_n E.2.2.1 rfl dX3_keep_0
theorem oo_X3_keep_1 {Γ : jΓ} {Q : jPost} (E : E_X3_keep Γ Q) : jSA Γ Q 1 (o_getf 3 0) 3 := so_getf (ci := 3) E.2.2.1 wi_X3_keep_X3 (by rw [E.2.1]; rfl) 0 (by decide) wl_X3_keep_24 dX3_keep_1
theorem oo_X3_keep_4 {Γ : jΓ} {Q : jPost} (E : E_X3_keep Γ Q) : jSA Γ Q 4 (o_ic (60)) 2 := so_bipush E.2.2.1 rfl dX3_keep_4
theorem oo_X3_keep_6 {Γ : jΓ} {Q : jPost} (E : E_X3_keep Γ Q) : jSA Γ Q 6 (o_icge 50) 3 := so_icge E.2.2.1 (by decide) dX3_keep_6
theorem oo_X3_keep_9 {Γ : jΓ} {Q : jPost} (E : E_X3_keep Γ Q) : jSA Γ Q 9 (o_aload 0) 1 := so_aload_n E.2.2.1 rfl dX3_keep_9
theorem oo_X3_keep_10 {Γ : jΓ} {Q : jPost} (E : E_X3_keep Γ Q) : jSA Γ Q 10 (o_getf 3 1) 3 := so_getf (ci := 3) E.2.2.1 wi_X3_keep_X3 (by rw [E.2.1]; rfl) 1 (by decide) wl_X3_keep_9 dX3_keep_10
theorem oo_X3_keep_13 {Γ : jΓ} {Q : jPost} (E : E_X3_keep Γ Q) : jSA Γ Q 13 (o_aload 0) 1 := so_aload_n E.2.2.1 rfl dX3_keep_13
theorem oo_X3_keep_14 {Γ : jΓ} {Q : jPost} (E : E_X3_keep Γ Q) : jSA Γ Q 14 (o_getf 3 0) 3 := so_getf (ci := 3) E.2.2.1 wi_X3_keep_X3 (by rw [E.2.1]; rfl) 0 (by decide) wl_X3_keep_24 dX3_keep_14
theorem oo_X3_keep_17 {Γ : jΓ} {Q : jPost} (E : E_X3_keep Γ Q) : jSA Γ Q 17 (o_iload 1) 1 := so_iload_n E.2.2.1 rfl dX3_keep_17
theorem oo_X3_keep_18 {Γ : jΓ} {Q : jPost} (E : E_X3_keep Γ Q) : jSA Γ Q 18 (o_iast) 1 := so_iast E.2.2.1 dX3_keep_18
theorem oo_X3_keep_19 {Γ : jΓ} {Q : jPost} (E : E_X3_keep Γ Q) : jSA Γ Q 19 (o_aload 0) 1 := so_aload_n E.2.2.1 rfl dX3_keep_19
theorem oo_X3_keep_20 {Γ : jΓ} {Q : jPost} (E : E_X3_keep Γ Q) : jSA Γ Q 20 (o_getf 3 2) 3 := so_getf (ci := 3) E.2.2.1 wi_X3_keep_X3 (by rw [E.2.1]; rfl) 2 (by decide) wl_X3_keep_15 dX3_keep_20
theorem oo_X3_keep_23 {Γ : jΓ} {Q : jPost} (E : E_X3_keep Γ Q) : jSA Γ Q 23 (o_aload 0) 1 := so_aload_n E.2.2.1 rfl dX3_keep_23
theorem oo_X3_keep_24 {Γ : jΓ} {Q : jPost} (E : E_X3_keep Γ Q) : jSA Γ Q 24 (o_getf 3 0) 3 := so_getf (ci := 3) E.2.2.1 wi_X3_keep_X3 (by rw [E.2.1]; rfl) 0 (by decide) wl_X3_keep_24 dX3_keep_24
theorem oo_X3_keep_27 {Γ : jΓ} {Q : jPost} (E : E_X3_keep Γ Q) : jSA Γ Q 27 (o_iload 2) 1 := so_iload_n E.2.2.1 rfl dX3_keep_27
theorem oo_X3_keep_28 {Γ : jΓ} {Q : jPost} (E : E_X3_keep Γ Q) : jSA Γ Q 28 (o_iast) 1 := so_iast E.2.2.1 dX3_keep_28
theorem oo_X3_keep_29 {Γ : jΓ} {Q : jPost} (E : E_X3_keep Γ Q) : jSA Γ Q 29 (o_aload 0) 1 := so_aload_n E.2.2.1 rfl dX3_keep_29
theorem oo_X3_keep_30 {Γ : jΓ} {Q : jPost} (E : E_X3_keep Γ Q) : jSA Γ Q 30 (o_getf 3 3) 3 := so_getf (ci := 3) E.2.2.1 wi_X3_keep_X3 (by rw [E.2.1]; rfl) 3 (by decide) wl_X3_keep_18 dX3_keep_30
theorem oo_X3_keep_33 {Γ : jΓ} {Q : jPost} (E : E_X3_keep Γ Q) : jSA Γ Q 33 (o_aload 0) 1 := so_aload_n E.2.2.1 rfl dX3_keep_33
theorem oo_X3_keep_34 {Γ : jΓ} {Q : jPost} (E : E_X3_keep Γ Q) : jSA Γ Q 34 (o_getf 3 0) 3 := so_getf (ci := 3) E.2.2.1 wi_X3_keep_X3 (by rw [E.2.1]; rfl) 0 (by decide) wl_X3_keep_24 dX3_keep_34
theorem oo_X3_keep_37 {Γ : jΓ} {Q : jPost} (E : E_X3_keep Γ Q) : jSA Γ Q 37 (o_iload 3) 1 := so_iload_n E.2.2.1 rfl dX3_keep_37
theorem oo_X3_keep_38 {Γ : jΓ} {Q : jPost} (E : E_X3_keep Γ Q) : jSA Γ Q 38 (o_iast) 1 := so_iast E.2.2.1 dX3_keep_38
theorem oo_X3_keep_39 {Γ : jΓ} {Q : jPost} (E : E_X3_keep Γ Q) : jSA Γ Q 39 (o_aload 0) 1 := so_aload_n E.2.2.1 rfl dX3_keep_39
theorem oo_X3_keep_40 {Γ : jΓ} {Q : jPost} (E : E_X3_keep Γ Q) : jSA Γ Q 40 (o_getf 3 4) 3 := so_getf (ci := 3) E.2.2.1 wi_X3_keep_X3 (by rw [E.2.1]; rfl) 4 (by decide) wl_X3_keep_21 dX3_keep_40
theorem oo_X3_keep_43 {Γ : jΓ} {Q : jPost} (E : E_X3_keep Γ Q) : jSA Γ Q 43 (o_aload 0) 1 := so_aload_n E.2.2.1 rfl dX3_keep_43
theorem oo_X3_keep_44 {Γ : jΓ} {Q : jPost} (E : E_X3_keep Γ Q) : jSA Γ Q 44 (o_getf 3 0) 3 := so_getf (ci := 3) E.2.2.1 wi_X3_keep_X3 (by rw [E.2.1]; rfl) 0 (by decide) wl_X3_keep_24 dX3_keep_44
theorem oo_X3_keep_47 {Γ : jΓ} {Q : jPost} (E : E_X3_keep Γ Q) : jSA Γ Q 47 (o_iload 4) 2 := so_iload E.2.2.1 dX3_keep_47
theorem oo_X3_keep_49 {Γ : jΓ} {Q : jPost} (E : E_X3_keep Γ Q) : jSA Γ Q 49 (o_iast) 1 := so_iast E.2.2.1 dX3_keep_49
theorem oo_X3_keep_50 {Γ : jΓ} {Q : jPost} (E : E_X3_keep Γ Q) : jSA Γ Q 50 (o_aload 0) 1 := so_aload_n E.2.2.1 rfl dX3_keep_50
theorem oo_X3_keep_51 {Γ : jΓ} {Q : jPost} (E : E_X3_keep Γ Q) : jSA Γ Q 51 (o_dup) 1 := so_dup E.2.2.1 dX3_keep_51
theorem oo_X3_keep_52 {Γ : jΓ} {Q : jPost} (E : E_X3_keep Γ Q) : jSA Γ Q 52 (o_getf 3 0) 3 := so_getf (ci := 3) E.2.2.1 wi_X3_keep_X3 (by rw [E.2.1]; rfl) 0 (by decide) wl_X3_keep_24 dX3_keep_52
theorem oo_X3_keep_55 {Γ : jΓ} {Q : jPost} (E : E_X3_keep Γ Q) : jSA Γ Q 55 (o_ic (1)) 1 := so_iconst E.2.2.1 rfl dX3_keep_55
theorem oo_X3_keep_56 {Γ : jΓ} {Q : jPost} (E : E_X3_keep Γ Q) : jSA Γ Q 56 (o_iadd) 1 := so_iadd E.2.2.1 dX3_keep_56
theorem oo_X3_keep_57 {Γ : jΓ} {Q : jPost} (E : E_X3_keep Γ Q) : jSA Γ Q 57 (o_putf 3 0) 3 := so_putf (ci := 3) E.2.2.1 tyX3 tyX3_ok nmX3 wi_X3_keep_X3 (by rw [E.2.1]; rfl) 0 (by decide) wl_X3_keep_24 rfl (by decide +kernel) dX3_keep_57
theorem oo_X3_keep_60 {Γ : jΓ} {Q : jPost} (E : E_X3_keep Γ Q) : jSA Γ Q 60 (o_vret) 1 := so_vret E.2.2.1 E.2.2.2 dX3_keep_60
theorem ok_X3_keep_0 {Γ : jΓ} {Q : jPost} (E : E_X3_keep Γ Q) : jSS Γ Q 0 sg_X3_keep_0 := ⟨oo_X3_keep_0 E, oo_X3_keep_1 E, oo_X3_keep_4 E, oo_X3_keep_6 E, oo_X3_keep_9 E, oo_X3_keep_10 E, oo_X3_keep_13 E, oo_X3_keep_14 E, oo_X3_keep_17 E, oo_X3_keep_18 E, oo_X3_keep_19 E, oo_X3_keep_20 E, oo_X3_keep_23 E, oo_X3_keep_24 E, oo_X3_keep_27 E, oo_X3_keep_28 E, oo_X3_keep_29 E, oo_X3_keep_30 E, oo_X3_keep_33 E, oo_X3_keep_34 E, oo_X3_keep_37 E, oo_X3_keep_38 E, oo_X3_keep_39 E, oo_X3_keep_40 E, oo_X3_keep_43 E, oo_X3_keep_44 E, oo_X3_keep_47 E, oo_X3_keep_49 E, oo_X3_keep_50 E, oo_X3_keep_51 E, oo_X3_keep_52 E, oo_X3_keep_55 E, oo_X3_keep_56 E, oo_X3_keep_57 E, oo_X3_keep_60 E, trivial⟩
theorem ok_X3_keep_50 {Γ : jΓ} {Q : jPost} (E : E_X3_keep Γ Q) : jSS Γ Q 50 sg_X3_keep_50 := ⟨oo_X3_keep_50 E, oo_X3_keep_51 E, oo_X3_keep_52 E, oo_X3_keep_55 E, oo_X3_keep_56 E, oo_X3_keep_57 E, oo_X3_keep_60 E, trivial⟩
theorem okc_X3_keep {Γ : jΓ} {Q : jPost} (E : E_X3_keep Γ Q) (t : Nat) : jSS Γ Q t (cd_X3_keep t) := by
  unfold cd_X3_keep
  split
  · exact ok_X3_keep_50 E
  · trivial
theorem m_X3_keep_of (l : Launch) (hv : ∀ (G : jGt) (Q : jPost) (vs : List Value) (K : List jK) (h : jM), jHd cd_X3_keep G Q sg_X3_keep_0 0 → T_X3_keep vs K h Q → (lg_sl vs).length ≤ 5 ∧ G 0 (jinit vs 5) [] K h 0 0) : jHolds vwCl l yX3_keep wsX3_keep 0 0 0 0 T_X3_keep := by
  refine jMet (cc := cX3_keep) (maxL := 5) (rt := none) (by decide +kernel) rfl (fun Γ Q vs K h hl hn hcl C hR hT => hv (jG Γ) Q vs K h ?_ hT)
  · exact fun n L st K h ce sl => jwp_ok (okc_X3_keep ⟨hn, hcl, C, hR⟩) n sg_X3_keep_0 0 (ok_X3_keep_0 ⟨hn, hcl, C, hR⟩) L st K h ce sl
set_option maxHeartbeats 4000000 in
set_option maxRecDepth 100000 in
theorem v_X3_keep {G : jGt} {Q : jPost} {K : List jK} {h : jM} {w : Int32} {x : Int32} {y : Int32} {b : Int32} (hT : jX K ∧ 0 ≤ (h 19 0).toInt ∧ Q none K (jkeep h w x y b)) (H0 : jHd cd_X3_keep G Q sg_X3_keep_0 0) : G 0 [some (.ref 19), some (.int w), some (.int x), some (.int y), some (.int b)] [] K h 0 0 := by
  obtain ⟨hX, h0, hT⟩ := hT
  refine H0 60 _ _ _ _ _ _ ?_
  simp only [sg_X3_keep_0, sg_X3_keep_50, cd_X3_keep, jwp, o_ic, o_lc, o_iload, o_lload, o_aload, o_istore, o_lstore, o_astore, o_iinc, o_pop, o_dup, o_dup2, o_iadd, o_isub, o_imul, o_iand, o_ior, o_ishl, o_ladd, o_lmul, o_land, o_lor, o_idiv, o_irem, o_ineg, o_i2l, o_l2i, o_i2b, o_i2s, o_lushr, o_lshr, o_lshl, o_lcmp, o_ifeq, o_ifne, o_iflt, o_ifge, o_ifgt, o_ifle, o_iceq, o_icne, o_iclt, o_icge, o_icgt, o_icle, o_goto, o_tsw, jsw, o_lsw, jlk, o_getf, o_putf, o_putz, o_iald, o_zald, o_iast, o_zast, o_aald, o_alen, o_gets, o_zld, o_zlen, o_cpy, o_call, o_callV, o_ireti, o_iretz, o_lret, o_vret, jg, js, jkp, jkill, jsp, jcs, jfw, jov, Value.category, Option.toList_some, Option.toList_none, List.nil_append, List.cons_append, List.append_nil, Nat.reduceAdd, true_and, and_true, jb0, jb01, jb1, jem, true_or, or_true, Classical.not_not, forall_const, List.length_cons, List.length_nil, Nat.reduceLeDiff, Nat.zero_le, Nat.reduceLT, hX, kx_0_0 hX, kx_0_1 hX, kx_0_2 hX, kx_0_3 hX, kx_0_4 hX, kx_0_5 hX, kx_0_6 hX, kx_0_7 hX, kx_0_8 hX, kxo_0 hX, kx_1_0 hX, kx_1_1 hX, kx_1_2 hX, kx_1_3 hX, kxo_1 hX, kx_4_0 hX, kx_4_1 hX, kx_4_2 hX, kxo_4 hX, kx_19_0 hX, kx_19_1 hX, kx_19_2 hX, kx_19_3 hX, kx_19_4 hX, kxo_19 hX, kx_24_0 hX, kx_24_1 hX, kx_24_2 hX, kx_24_3 hX, kx_24_4 hX, kx_24_5 hX, kx_24_6 hX, kxo_24 hX, kxa_2 hX, kxa_3 hX, kxa_6 hX, kxa_7 hX, kxa_8 hX, kxa_9 hX, kxa_10 hX, kxa_18 hX, kxa_20 hX, kxa_21 hX, kxa_22 hX, kxa_23 hX, kxa_26 hX, kxa_27 hX, kxr_5 hX, kxr_11 hX, kxr_28 hX]
  unfold jkeep at hT
  refine ⟨fun c => ?_, fun c => ?_⟩
  · rw [if_neg (Int32.not_lt.mpr c)] at hT
    exact hT
  · rw [if_pos (Int32.not_le.mp c)] at hT
    have hv : vp_in (h 19 0) 60 := by
      have c' := Int32.not_le.mp c
      rw [Int32.lt_iff_toInt_lt] at c'
      exact vp_in_iff.mpr ⟨h0, c'⟩
    refine ⟨hv, ?_⟩
    rw [up2_n (by decide : ¬ 19 = 20)]
    refine ⟨hv, ?_⟩
    rw [up2_n (by decide : ¬ 19 = 21), up2_n (by decide : ¬ 19 = 20)]
    refine ⟨hv, ?_⟩
    rw [up2_n (by decide : ¬ 19 = 22), up2_n (by decide : ¬ 19 = 21), up2_n (by decide : ¬ 19 = 20)]
    refine ⟨hv, ?_⟩
    rw [up2_n (by decide : ¬ 19 = 23), up2_n (by decide : ¬ 19 = 22), up2_n (by decide : ¬ 19 = 21), up2_n (by decide : ¬ 19 = 20)]
    exact hT
theorem m_X3_keep (l : Launch) : jHolds vwCl l yX3_keep wsX3_keep 0 0 0 0 T_X3_keep := by
  refine m_X3_keep_of l (fun G Q vs K h H0 hT => ?_)
  unfold T_X3_keep at hT
  split at hT
  · obtain ⟨rfl, hT⟩ := hT
    exact ⟨Nat.le_of_ble_eq_true rfl, v_X3_keep hT H0⟩
  · exact hT.elim

/-! X4_turnOf -/
def jtof (c : Int) (d : Int32) : Int32 := if c = 76 then d - 1 else if c = 77 then (if d = 6 then d - 2 else -1) else if c = 78 then 0 else if c = 82 then 1 else if c = 83 then (if d = 6 then 2 else -1) else if c = 85 then d / 2 else -1
def T_X4_turnOf : jT := fun vs K h Q => match vs with
  | [.int c, .int d] => (Q (some (.int (jtof c.toInt d))) K h)
  | _ => False
def sg_X4_turnOf_0 : jS := [(o_iload 1, 1), (o_gets 2, 3), (o_zlen 2, 1), (o_icne 12, 3), (o_ic (1), 1), (o_goto 13, 3)]
def sg_X4_turnOf_12 : jS := [(o_ic (0), 1), (o_istore 2, 1), (o_iload 0, 1), (o_tsw (76) 102 [76, 90, 68, 102, 102, 102, 70, 80, 102, 72], 53)]
def sg_X4_turnOf_13 : jS := [(o_istore 2, 1), (o_iload 0, 1), (o_tsw (76) 102 [76, 90, 68, 102, 102, 102, 70, 80, 102, 72], 53)]
def sg_X4_turnOf_68 : jS := [(o_ic (0), 1), (o_ireti, 1)]
def sg_X4_turnOf_70 : jS := [(o_ic (1), 1), (o_ireti, 1)]
def sg_X4_turnOf_72 : jS := [(o_iload 1, 1), (o_ic (2), 1), (o_idiv, 1), (o_ireti, 1)]
def sg_X4_turnOf_76 : jS := [(o_iload 1, 1), (o_ic (1), 1), (o_isub, 1), (o_ireti, 1)]
def sg_X4_turnOf_80 : jS := [(o_iload 2, 1), (o_ifeq 88, 3), (o_ic (2), 1), (o_goto 89, 3)]
def sg_X4_turnOf_88 : jS := [(o_ic (-1), 1), (o_ireti, 1)]
def sg_X4_turnOf_89 : jS := [(o_ireti, 1)]
def sg_X4_turnOf_90 : jS := [(o_iload 2, 1), (o_ifeq 100, 3), (o_iload 1, 1), (o_ic (2), 1), (o_isub, 1), (o_goto 101, 3)]
def sg_X4_turnOf_100 : jS := [(o_ic (-1), 1), (o_ireti, 1)]
def sg_X4_turnOf_101 : jS := [(o_ireti, 1)]
def sg_X4_turnOf_102 : jS := [(o_ic (-1), 1), (o_ireti, 1)]
def cd_X4_turnOf : Nat → jS := fun t => match t with
  | 12 => sg_X4_turnOf_12
  | 13 => sg_X4_turnOf_13
  | 68 => sg_X4_turnOf_68
  | 70 => sg_X4_turnOf_70
  | 72 => sg_X4_turnOf_72
  | 76 => sg_X4_turnOf_76
  | 80 => sg_X4_turnOf_80
  | 88 => sg_X4_turnOf_88
  | 89 => sg_X4_turnOf_89
  | 90 => sg_X4_turnOf_90
  | 100 => sg_X4_turnOf_100
  | 101 => sg_X4_turnOf_101
  | 102 => sg_X4_turnOf_102
  | _ => []
def E_X4_turnOf (Γ : jΓ) (Q : jPost) : Prop := Γ.2.2.2.2.2.2.2.2.2.2.1 = 3 ∧ Γ.2.2.2.2.2.2.2.2.2.2.2.1 = vwCl ∧ jC Γ cX4_turnOf RX4 "turnOf" (some .int) wsX4_turnOf 0 0 0 0 ∧ jR Γ Q 0 0
theorem oo_X4_turnOf_0 {Γ : jΓ} {Q : jPost} (E : E_X4_turnOf Γ Q) : jSA Γ Q 0 (o_iload 1) 1 := so_iload_n E.2.2.1 rfl dX4_turnOf_0
theorem oo_X4_turnOf_1 {Γ : jΓ} {Q : jPost} (E : E_X4_turnOf Γ Q) : jSA Γ Q 1 (o_gets 2) 3 := so_gets E.2.2.1 (by decide +kernel) dX4_turnOf_1
theorem oo_X4_turnOf_4 {Γ : jΓ} {Q : jPost} (E : E_X4_turnOf Γ Q) : jSA Γ Q 4 (o_zlen 2) 1 := so_zlen E.2.2.1 dX4_turnOf_4
theorem oo_X4_turnOf_5 {Γ : jΓ} {Q : jPost} (E : E_X4_turnOf Γ Q) : jSA Γ Q 5 (o_icne 12) 3 := so_icne E.2.2.1 (by decide) dX4_turnOf_5
theorem oo_X4_turnOf_8 {Γ : jΓ} {Q : jPost} (E : E_X4_turnOf Γ Q) : jSA Γ Q 8 (o_ic (1)) 1 := so_iconst E.2.2.1 rfl dX4_turnOf_8
theorem oo_X4_turnOf_9 {Γ : jΓ} {Q : jPost} (E : E_X4_turnOf Γ Q) : jSA Γ Q 9 (o_goto 13) 3 := so_goto E.2.2.1 (by decide) dX4_turnOf_9
theorem oo_X4_turnOf_12 {Γ : jΓ} {Q : jPost} (E : E_X4_turnOf Γ Q) : jSA Γ Q 12 (o_ic (0)) 1 := so_iconst E.2.2.1 rfl dX4_turnOf_12
theorem oo_X4_turnOf_13 {Γ : jΓ} {Q : jPost} (E : E_X4_turnOf Γ Q) : jSA Γ Q 13 (o_istore 2) 1 := so_istore_n E.2.2.1 rfl (by rw [E.1]; decide) dX4_turnOf_13
theorem oo_X4_turnOf_14 {Γ : jΓ} {Q : jPost} (E : E_X4_turnOf Γ Q) : jSA Γ Q 14 (o_iload 0) 1 := so_iload_n E.2.2.1 rfl dX4_turnOf_14
theorem oo_X4_turnOf_15 {Γ : jΓ} {Q : jPost} (E : E_X4_turnOf Γ Q) : jSA Γ Q 15 (o_tsw (76) 102 [76, 90, 68, 102, 102, 102, 70, 80, 102, 72]) 53 := so_tsw E.2.2.1 (by decide) (by decide) (by decide) dX4_turnOf_15
theorem oo_X4_turnOf_68 {Γ : jΓ} {Q : jPost} (E : E_X4_turnOf Γ Q) : jSA Γ Q 68 (o_ic (0)) 1 := so_iconst E.2.2.1 rfl dX4_turnOf_68
theorem oo_X4_turnOf_69 {Γ : jΓ} {Q : jPost} (E : E_X4_turnOf Γ Q) : jSA Γ Q 69 (o_ireti) 1 := so_ireti E.2.2.1 E.2.2.2 dX4_turnOf_69
theorem oo_X4_turnOf_70 {Γ : jΓ} {Q : jPost} (E : E_X4_turnOf Γ Q) : jSA Γ Q 70 (o_ic (1)) 1 := so_iconst E.2.2.1 rfl dX4_turnOf_70
theorem oo_X4_turnOf_71 {Γ : jΓ} {Q : jPost} (E : E_X4_turnOf Γ Q) : jSA Γ Q 71 (o_ireti) 1 := so_ireti E.2.2.1 E.2.2.2 dX4_turnOf_71
theorem oo_X4_turnOf_72 {Γ : jΓ} {Q : jPost} (E : E_X4_turnOf Γ Q) : jSA Γ Q 72 (o_iload 1) 1 := so_iload_n E.2.2.1 rfl dX4_turnOf_72
theorem oo_X4_turnOf_73 {Γ : jΓ} {Q : jPost} (E : E_X4_turnOf Γ Q) : jSA Γ Q 73 (o_ic (2)) 1 := so_iconst E.2.2.1 rfl dX4_turnOf_73
theorem oo_X4_turnOf_74 {Γ : jΓ} {Q : jPost} (E : E_X4_turnOf Γ Q) : jSA Γ Q 74 (o_idiv) 1 := so_idiv E.2.2.1 dX4_turnOf_74
theorem oo_X4_turnOf_75 {Γ : jΓ} {Q : jPost} (E : E_X4_turnOf Γ Q) : jSA Γ Q 75 (o_ireti) 1 := so_ireti E.2.2.1 E.2.2.2 dX4_turnOf_75
theorem oo_X4_turnOf_76 {Γ : jΓ} {Q : jPost} (E : E_X4_turnOf Γ Q) : jSA Γ Q 76 (o_iload 1) 1 := so_iload_n E.2.2.1 rfl dX4_turnOf_76
theorem oo_X4_turnOf_77 {Γ : jΓ} {Q : jPost} (E : E_X4_turnOf Γ Q) : jSA Γ Q 77 (o_ic (1)) 1 := so_iconst E.2.2.1 rfl dX4_turnOf_77
theorem oo_X4_turnOf_78 {Γ : jΓ} {Q : jPost} (E : E_X4_turnOf Γ Q) : jSA Γ Q 78 (o_isub) 1 := so_isub E.2.2.1 dX4_turnOf_78
theorem oo_X4_turnOf_79 {Γ : jΓ} {Q : jPost} (E : E_X4_turnOf Γ Q) : jSA Γ Q 79 (o_ireti) 1 := so_ireti E.2.2.1 E.2.2.2 dX4_turnOf_79
theorem oo_X4_turnOf_80 {Γ : jΓ} {Q : jPost} (E : E_X4_turnOf Γ Q) : jSA Γ Q 80 (o_iload 2) 1 := so_iload_n E.2.2.1 rfl dX4_turnOf_80
theorem oo_X4_turnOf_81 {Γ : jΓ} {Q : jPost} (E : E_X4_turnOf Γ Q) : jSA Γ Q 81 (o_ifeq 88) 3 := so_ifeq E.2.2.1 (by decide) dX4_turnOf_81
theorem oo_X4_turnOf_84 {Γ : jΓ} {Q : jPost} (E : E_X4_turnOf Γ Q) : jSA Γ Q 84 (o_ic (2)) 1 := so_iconst E.2.2.1 rfl dX4_turnOf_84
theorem oo_X4_turnOf_85 {Γ : jΓ} {Q : jPost} (E : E_X4_turnOf Γ Q) : jSA Γ Q 85 (o_goto 89) 3 := so_goto E.2.2.1 (by decide) dX4_turnOf_85
theorem oo_X4_turnOf_88 {Γ : jΓ} {Q : jPost} (E : E_X4_turnOf Γ Q) : jSA Γ Q 88 (o_ic (-1)) 1 := so_iconst E.2.2.1 rfl dX4_turnOf_88
theorem oo_X4_turnOf_89 {Γ : jΓ} {Q : jPost} (E : E_X4_turnOf Γ Q) : jSA Γ Q 89 (o_ireti) 1 := so_ireti E.2.2.1 E.2.2.2 dX4_turnOf_89
theorem oo_X4_turnOf_90 {Γ : jΓ} {Q : jPost} (E : E_X4_turnOf Γ Q) : jSA Γ Q 90 (o_iload 2) 1 := so_iload_n E.2.2.1 rfl dX4_turnOf_90
theorem oo_X4_turnOf_91 {Γ : jΓ} {Q : jPost} (E : E_X4_turnOf Γ Q) : jSA Γ Q 91 (o_ifeq 100) 3 := so_ifeq E.2.2.1 (by decide) dX4_turnOf_91
theorem oo_X4_turnOf_94 {Γ : jΓ} {Q : jPost} (E : E_X4_turnOf Γ Q) : jSA Γ Q 94 (o_iload 1) 1 := so_iload_n E.2.2.1 rfl dX4_turnOf_94
theorem oo_X4_turnOf_95 {Γ : jΓ} {Q : jPost} (E : E_X4_turnOf Γ Q) : jSA Γ Q 95 (o_ic (2)) 1 := so_iconst E.2.2.1 rfl dX4_turnOf_95
theorem oo_X4_turnOf_96 {Γ : jΓ} {Q : jPost} (E : E_X4_turnOf Γ Q) : jSA Γ Q 96 (o_isub) 1 := so_isub E.2.2.1 dX4_turnOf_96
theorem oo_X4_turnOf_97 {Γ : jΓ} {Q : jPost} (E : E_X4_turnOf Γ Q) : jSA Γ Q 97 (o_goto 101) 3 := so_goto E.2.2.1 (by decide) dX4_turnOf_97
theorem oo_X4_turnOf_100 {Γ : jΓ} {Q : jPost} (E : E_X4_turnOf Γ Q) : jSA Γ Q 100 (o_ic (-1)) 1 := so_iconst E.2.2.1 rfl dX4_turnOf_100
theorem oo_X4_turnOf_101 {Γ : jΓ} {Q : jPost} (E : E_X4_turnOf Γ Q) : jSA Γ Q 101 (o_ireti) 1 := so_ireti E.2.2.1 E.2.2.2 dX4_turnOf_101
theorem oo_X4_turnOf_102 {Γ : jΓ} {Q : jPost} (E : E_X4_turnOf Γ Q) : jSA Γ Q 102 (o_ic (-1)) 1 := so_iconst E.2.2.1 rfl dX4_turnOf_102
theorem oo_X4_turnOf_103 {Γ : jΓ} {Q : jPost} (E : E_X4_turnOf Γ Q) : jSA Γ Q 103 (o_ireti) 1 := so_ireti E.2.2.1 E.2.2.2 dX4_turnOf_103
theorem ok_X4_turnOf_0 {Γ : jΓ} {Q : jPost} (E : E_X4_turnOf Γ Q) : jSS Γ Q 0 sg_X4_turnOf_0 := ⟨oo_X4_turnOf_0 E, oo_X4_turnOf_1 E, oo_X4_turnOf_4 E, oo_X4_turnOf_5 E, oo_X4_turnOf_8 E, oo_X4_turnOf_9 E, trivial⟩
theorem ok_X4_turnOf_12 {Γ : jΓ} {Q : jPost} (E : E_X4_turnOf Γ Q) : jSS Γ Q 12 sg_X4_turnOf_12 := ⟨oo_X4_turnOf_12 E, oo_X4_turnOf_13 E, oo_X4_turnOf_14 E, oo_X4_turnOf_15 E, trivial⟩
theorem ok_X4_turnOf_13 {Γ : jΓ} {Q : jPost} (E : E_X4_turnOf Γ Q) : jSS Γ Q 13 sg_X4_turnOf_13 := ⟨oo_X4_turnOf_13 E, oo_X4_turnOf_14 E, oo_X4_turnOf_15 E, trivial⟩
theorem ok_X4_turnOf_68 {Γ : jΓ} {Q : jPost} (E : E_X4_turnOf Γ Q) : jSS Γ Q 68 sg_X4_turnOf_68 := ⟨oo_X4_turnOf_68 E, oo_X4_turnOf_69 E, trivial⟩
theorem ok_X4_turnOf_70 {Γ : jΓ} {Q : jPost} (E : E_X4_turnOf Γ Q) : jSS Γ Q 70 sg_X4_turnOf_70 := ⟨oo_X4_turnOf_70 E, oo_X4_turnOf_71 E, trivial⟩
theorem ok_X4_turnOf_72 {Γ : jΓ} {Q : jPost} (E : E_X4_turnOf Γ Q) : jSS Γ Q 72 sg_X4_turnOf_72 := ⟨oo_X4_turnOf_72 E, oo_X4_turnOf_73 E, oo_X4_turnOf_74 E, oo_X4_turnOf_75 E, trivial⟩
theorem ok_X4_turnOf_76 {Γ : jΓ} {Q : jPost} (E : E_X4_turnOf Γ Q) : jSS Γ Q 76 sg_X4_turnOf_76 := ⟨oo_X4_turnOf_76 E, oo_X4_turnOf_77 E, oo_X4_turnOf_78 E, oo_X4_turnOf_79 E, trivial⟩
theorem ok_X4_turnOf_80 {Γ : jΓ} {Q : jPost} (E : E_X4_turnOf Γ Q) : jSS Γ Q 80 sg_X4_turnOf_80 := ⟨oo_X4_turnOf_80 E, oo_X4_turnOf_81 E, oo_X4_turnOf_84 E, oo_X4_turnOf_85 E, trivial⟩
theorem ok_X4_turnOf_88 {Γ : jΓ} {Q : jPost} (E : E_X4_turnOf Γ Q) : jSS Γ Q 88 sg_X4_turnOf_88 := ⟨oo_X4_turnOf_88 E, oo_X4_turnOf_89 E, trivial⟩
theorem ok_X4_turnOf_89 {Γ : jΓ} {Q : jPost} (E : E_X4_turnOf Γ Q) : jSS Γ Q 89 sg_X4_turnOf_89 := ⟨oo_X4_turnOf_89 E, trivial⟩
theorem ok_X4_turnOf_90 {Γ : jΓ} {Q : jPost} (E : E_X4_turnOf Γ Q) : jSS Γ Q 90 sg_X4_turnOf_90 := ⟨oo_X4_turnOf_90 E, oo_X4_turnOf_91 E, oo_X4_turnOf_94 E, oo_X4_turnOf_95 E, oo_X4_turnOf_96 E, oo_X4_turnOf_97 E, trivial⟩
theorem ok_X4_turnOf_100 {Γ : jΓ} {Q : jPost} (E : E_X4_turnOf Γ Q) : jSS Γ Q 100 sg_X4_turnOf_100 := ⟨oo_X4_turnOf_100 E, oo_X4_turnOf_101 E, trivial⟩
theorem ok_X4_turnOf_101 {Γ : jΓ} {Q : jPost} (E : E_X4_turnOf Γ Q) : jSS Γ Q 101 sg_X4_turnOf_101 := ⟨oo_X4_turnOf_101 E, trivial⟩
theorem ok_X4_turnOf_102 {Γ : jΓ} {Q : jPost} (E : E_X4_turnOf Γ Q) : jSS Γ Q 102 sg_X4_turnOf_102 := ⟨oo_X4_turnOf_102 E, oo_X4_turnOf_103 E, trivial⟩
theorem okc_X4_turnOf {Γ : jΓ} {Q : jPost} (E : E_X4_turnOf Γ Q) (t : Nat) : jSS Γ Q t (cd_X4_turnOf t) := by
  unfold cd_X4_turnOf
  split
  · exact ok_X4_turnOf_12 E
  · exact ok_X4_turnOf_13 E
  · exact ok_X4_turnOf_68 E
  · exact ok_X4_turnOf_70 E
  · exact ok_X4_turnOf_72 E
  · exact ok_X4_turnOf_76 E
  · exact ok_X4_turnOf_80 E
  · exact ok_X4_turnOf_88 E
  · exact ok_X4_turnOf_89 E
  · exact ok_X4_turnOf_90 E
  · exact ok_X4_turnOf_100 E
  · exact ok_X4_turnOf_101 E
  · exact ok_X4_turnOf_102 E
  · trivial
theorem m_X4_turnOf_of (l : Launch) (hv : ∀ (G : jGt) (Q : jPost) (vs : List Value) (K : List jK) (h : jM), jHd cd_X4_turnOf G Q sg_X4_turnOf_0 0 → T_X4_turnOf vs K h Q → (lg_sl vs).length ≤ 3 ∧ G 0 (jinit vs 3) [] K h 0 0) : jHolds vwCl l yX4_turnOf wsX4_turnOf 0 0 0 0 T_X4_turnOf := by
  refine jMet (cc := cX4_turnOf) (maxL := 3) (rt := (some .int)) (by decide +kernel) rfl (fun Γ Q vs K h hl hn hcl C hR hT => hv (jG Γ) Q vs K h ?_ hT)
  · exact fun n L st K h ce sl => jwp_ok (okc_X4_turnOf ⟨hn, hcl, C, hR⟩) n sg_X4_turnOf_0 0 (ok_X4_turnOf_0 ⟨hn, hcl, C, hR⟩) L st K h ce sl
set_option maxHeartbeats 4000000 in
set_option maxRecDepth 100000 in
theorem v_X4_turnOf {G : jGt} {Q : jPost} {K : List jK} {h : jM} {c : Int32} {d : Int32} (hT : Q (some (.int (jtof c.toInt d))) K h) (H0 : jHd cd_X4_turnOf G Q sg_X4_turnOf_0 0) : G 0 [some (.int c), some (.int d), none] [] K h 0 0 := by
  refine H0 40 _ _ _ _ _ _ ?_
  simp only [sg_X4_turnOf_0, sg_X4_turnOf_12, sg_X4_turnOf_13, sg_X4_turnOf_68, sg_X4_turnOf_70, sg_X4_turnOf_72, sg_X4_turnOf_76, sg_X4_turnOf_80, sg_X4_turnOf_88, sg_X4_turnOf_89, sg_X4_turnOf_90, sg_X4_turnOf_100, sg_X4_turnOf_101, sg_X4_turnOf_102, cd_X4_turnOf, jwp, o_ic, o_lc, o_iload, o_lload, o_aload, o_istore, o_lstore, o_astore, o_iinc, o_pop, o_dup, o_dup2, o_iadd, o_isub, o_imul, o_iand, o_ior, o_ishl, o_ladd, o_lmul, o_land, o_lor, o_idiv, o_irem, o_ineg, o_i2l, o_l2i, o_i2b, o_i2s, o_lushr, o_lshr, o_lshl, o_lcmp, o_ifeq, o_ifne, o_iflt, o_ifge, o_ifgt, o_ifle, o_iceq, o_icne, o_iclt, o_icge, o_icgt, o_icle, o_goto, o_tsw, jsw, o_lsw, jlk, o_getf, o_putf, o_putz, o_iald, o_zald, o_iast, o_zast, o_aald, o_alen, o_gets, o_zld, o_zlen, o_cpy, o_call, o_callV, o_ireti, o_iretz, o_lret, o_vret, jg, js, jkp, jkill, jsp, jcs, jfw, jov, Value.category, Option.toList_some, Option.toList_none, List.nil_append, List.cons_append, List.append_nil, Nat.reduceAdd, true_and, and_true, jb0, jb01, jb1, jem, true_or, or_true, Classical.not_not, forall_const, List.length_cons, List.length_nil, Nat.reduceLeDiff, Nat.zero_le, Nat.reduceLT, List.length_cons, List.length_nil]
  unfold jtof at hT
  have h6 : Int32.ofNat (jzc 2).length = 6 := rfl
  simp only [h6]
  grind (splits := 60)
theorem m_X4_turnOf (l : Launch) : jHolds vwCl l yX4_turnOf wsX4_turnOf 0 0 0 0 T_X4_turnOf := by
  refine m_X4_turnOf_of l (fun G Q vs K h H0 hT => ?_)
  unfold T_X4_turnOf at hT
  split at hT
  · skip
    exact ⟨Nat.le_of_ble_eq_true rfl, v_X4_turnOf hT H0⟩
  · exact hT.elim

/-! X4_hasRoomFor -/
def T_X4_hasRoomFor : jT := fun vs K h Q => match vs with
  | [.ref r0, .int n] => r0 = 4 ∧ (jX K ∧ Q (some (.int (jb (h 4 2 + n ≤ 12)))) K h)
  | _ => False
def sg_X4_hasRoomFor_0 : jS := [(o_aload 0, 1), (o_getf 4 2, 3), (o_iload 1, 1), (o_iadd, 1), (o_ic (12), 2), (o_icgt 15, 3), (o_ic (1), 1), (o_goto 16, 3)]
def sg_X4_hasRoomFor_15 : jS := [(o_ic (0), 1), (o_iretz, 1)]
def sg_X4_hasRoomFor_16 : jS := [(o_iretz, 1)]
def cd_X4_hasRoomFor : Nat → jS := fun t => match t with
  | 15 => sg_X4_hasRoomFor_15
  | 16 => sg_X4_hasRoomFor_16
  | _ => []
theorem wl_X4_hasRoomFor_24 : Cond.fieldLink RX4 24 (TX4 2).1 (TX4 2).2.1 (TX4 2).2.2.1 ∈ wsX4_hasRoomFor := by decide +kernel
theorem wi_X4_hasRoomFor_X4 : ∀ w ∈ u_ws RX4 TX4 3, w ∈ wsX4_hasRoomFor := by decide +kernel
def E_X4_hasRoomFor (Γ : jΓ) (Q : jPost) : Prop := Γ.2.2.2.2.2.2.2.2.2.2.1 = 2 ∧ Γ.2.2.2.2.2.2.2.2.2.2.2.1 = vwCl ∧ jC Γ cX4_hasRoomFor RX4 "hasRoomFor" (some .boolean) wsX4_hasRoomFor 0 0 0 0 ∧ jR Γ Q 0 0
theorem oo_X4_hasRoomFor_0 {Γ : jΓ} {Q : jPost} (E : E_X4_hasRoomFor Γ Q) : jSA Γ Q 0 (o_aload 0) 1 := so_aload_n E.2.2.1 rfl dX4_hasRoomFor_0
theorem oo_X4_hasRoomFor_1 {Γ : jΓ} {Q : jPost} (E : E_X4_hasRoomFor Γ Q) : jSA Γ Q 1 (o_getf 4 2) 3 := so_getf (ci := 4) E.2.2.1 wi_X4_hasRoomFor_X4 (by rw [E.2.1]; rfl) 2 (by decide) wl_X4_hasRoomFor_24 dX4_hasRoomFor_1
theorem oo_X4_hasRoomFor_4 {Γ : jΓ} {Q : jPost} (E : E_X4_hasRoomFor Γ Q) : jSA Γ Q 4 (o_iload 1) 1 := so_iload_n E.2.2.1 rfl dX4_hasRoomFor_4
theorem oo_X4_hasRoomFor_5 {Γ : jΓ} {Q : jPost} (E : E_X4_hasRoomFor Γ Q) : jSA Γ Q 5 (o_iadd) 1 := so_iadd E.2.2.1 dX4_hasRoomFor_5
theorem oo_X4_hasRoomFor_6 {Γ : jΓ} {Q : jPost} (E : E_X4_hasRoomFor Γ Q) : jSA Γ Q 6 (o_ic (12)) 2 := so_bipush E.2.2.1 rfl dX4_hasRoomFor_6
theorem oo_X4_hasRoomFor_8 {Γ : jΓ} {Q : jPost} (E : E_X4_hasRoomFor Γ Q) : jSA Γ Q 8 (o_icgt 15) 3 := so_icgt E.2.2.1 (by decide) dX4_hasRoomFor_8
theorem oo_X4_hasRoomFor_11 {Γ : jΓ} {Q : jPost} (E : E_X4_hasRoomFor Γ Q) : jSA Γ Q 11 (o_ic (1)) 1 := so_iconst E.2.2.1 rfl dX4_hasRoomFor_11
theorem oo_X4_hasRoomFor_12 {Γ : jΓ} {Q : jPost} (E : E_X4_hasRoomFor Γ Q) : jSA Γ Q 12 (o_goto 16) 3 := so_goto E.2.2.1 (by decide) dX4_hasRoomFor_12
theorem oo_X4_hasRoomFor_15 {Γ : jΓ} {Q : jPost} (E : E_X4_hasRoomFor Γ Q) : jSA Γ Q 15 (o_ic (0)) 1 := so_iconst E.2.2.1 rfl dX4_hasRoomFor_15
theorem oo_X4_hasRoomFor_16 {Γ : jΓ} {Q : jPost} (E : E_X4_hasRoomFor Γ Q) : jSA Γ Q 16 (o_iretz) 1 := so_iretz E.2.2.1 E.2.2.2 dX4_hasRoomFor_16
theorem ok_X4_hasRoomFor_0 {Γ : jΓ} {Q : jPost} (E : E_X4_hasRoomFor Γ Q) : jSS Γ Q 0 sg_X4_hasRoomFor_0 := ⟨oo_X4_hasRoomFor_0 E, oo_X4_hasRoomFor_1 E, oo_X4_hasRoomFor_4 E, oo_X4_hasRoomFor_5 E, oo_X4_hasRoomFor_6 E, oo_X4_hasRoomFor_8 E, oo_X4_hasRoomFor_11 E, oo_X4_hasRoomFor_12 E, trivial⟩
theorem ok_X4_hasRoomFor_15 {Γ : jΓ} {Q : jPost} (E : E_X4_hasRoomFor Γ Q) : jSS Γ Q 15 sg_X4_hasRoomFor_15 := ⟨oo_X4_hasRoomFor_15 E, oo_X4_hasRoomFor_16 E, trivial⟩
theorem ok_X4_hasRoomFor_16 {Γ : jΓ} {Q : jPost} (E : E_X4_hasRoomFor Γ Q) : jSS Γ Q 16 sg_X4_hasRoomFor_16 := ⟨oo_X4_hasRoomFor_16 E, trivial⟩
theorem okc_X4_hasRoomFor {Γ : jΓ} {Q : jPost} (E : E_X4_hasRoomFor Γ Q) (t : Nat) : jSS Γ Q t (cd_X4_hasRoomFor t) := by
  unfold cd_X4_hasRoomFor
  split
  · exact ok_X4_hasRoomFor_15 E
  · exact ok_X4_hasRoomFor_16 E
  · trivial
theorem m_X4_hasRoomFor_of (l : Launch) (hv : ∀ (G : jGt) (Q : jPost) (vs : List Value) (K : List jK) (h : jM), jHd cd_X4_hasRoomFor G Q sg_X4_hasRoomFor_0 0 → T_X4_hasRoomFor vs K h Q → (lg_sl vs).length ≤ 2 ∧ G 0 (jinit vs 2) [] K h 0 0) : jHolds vwCl l yX4_hasRoomFor wsX4_hasRoomFor 0 0 0 0 T_X4_hasRoomFor := by
  refine jMet (cc := cX4_hasRoomFor) (maxL := 2) (rt := (some .boolean)) (by decide +kernel) rfl (fun Γ Q vs K h hl hn hcl C hR hT => hv (jG Γ) Q vs K h ?_ hT)
  · exact fun n L st K h ce sl => jwp_ok (okc_X4_hasRoomFor ⟨hn, hcl, C, hR⟩) n sg_X4_hasRoomFor_0 0 (ok_X4_hasRoomFor_0 ⟨hn, hcl, C, hR⟩) L st K h ce sl
set_option maxHeartbeats 4000000 in
set_option maxRecDepth 100000 in
theorem v_X4_hasRoomFor {G : jGt} {Q : jPost} {K : List jK} {h : jM} {n : Int32} (hT : jX K ∧ Q (some (.int (jb (h 4 2 + n ≤ 12)))) K h) (H0 : jHd cd_X4_hasRoomFor G Q sg_X4_hasRoomFor_0 0) : G 0 [some (.ref 4), some (.int n)] [] K h 0 0 := by
  obtain ⟨hX, hT⟩ := hT
  refine H0 30 _ _ _ _ _ _ ?_
  simp only [sg_X4_hasRoomFor_0, sg_X4_hasRoomFor_15, sg_X4_hasRoomFor_16, cd_X4_hasRoomFor, jwp, o_ic, o_lc, o_iload, o_lload, o_aload, o_istore, o_lstore, o_astore, o_iinc, o_pop, o_dup, o_dup2, o_iadd, o_isub, o_imul, o_iand, o_ior, o_ishl, o_ladd, o_lmul, o_land, o_lor, o_idiv, o_irem, o_ineg, o_i2l, o_l2i, o_i2b, o_i2s, o_lushr, o_lshr, o_lshl, o_lcmp, o_ifeq, o_ifne, o_iflt, o_ifge, o_ifgt, o_ifle, o_iceq, o_icne, o_iclt, o_icge, o_icgt, o_icle, o_goto, o_tsw, jsw, o_lsw, jlk, o_getf, o_putf, o_putz, o_iald, o_zald, o_iast, o_zast, o_aald, o_alen, o_gets, o_zld, o_zlen, o_cpy, o_call, o_callV, o_ireti, o_iretz, o_lret, o_vret, jg, js, jkp, jkill, jsp, jcs, jfw, jov, Value.category, Option.toList_some, Option.toList_none, List.nil_append, List.cons_append, List.append_nil, Nat.reduceAdd, true_and, and_true, jb0, jb01, jb1, jem, true_or, or_true, Classical.not_not, forall_const, List.length_cons, List.length_nil, Nat.reduceLeDiff, Nat.zero_le, Nat.reduceLT, hX, kx_0_0 hX, kx_0_1 hX, kx_0_2 hX, kx_0_3 hX, kx_0_4 hX, kx_0_5 hX, kx_0_6 hX, kx_0_7 hX, kx_0_8 hX, kxo_0 hX, kx_1_0 hX, kx_1_1 hX, kx_1_2 hX, kx_1_3 hX, kxo_1 hX, kx_4_0 hX, kx_4_1 hX, kx_4_2 hX, kxo_4 hX, kx_19_0 hX, kx_19_1 hX, kx_19_2 hX, kx_19_3 hX, kx_19_4 hX, kxo_19 hX, kx_24_0 hX, kx_24_1 hX, kx_24_2 hX, kx_24_3 hX, kx_24_4 hX, kx_24_5 hX, kx_24_6 hX, kxo_24 hX, kxa_2 hX, kxa_3 hX, kxa_6 hX, kxa_7 hX, kxa_8 hX, kxa_9 hX, kxa_10 hX, kxa_18 hX, kxa_20 hX, kxa_21 hX, kxa_22 hX, kxa_23 hX, kxa_26 hX, kxa_27 hX, kxr_5 hX, kxr_11 hX, kxr_28 hX]
  unfold jb at hT
  grind
theorem m_X4_hasRoomFor (l : Launch) : jHolds vwCl l yX4_hasRoomFor wsX4_hasRoomFor 0 0 0 0 T_X4_hasRoomFor := by
  refine m_X4_hasRoomFor_of l (fun G Q vs K h H0 hT => ?_)
  unfold T_X4_hasRoomFor at hT
  split at hT
  · obtain ⟨rfl, hT⟩ := hT
    exact ⟨Nat.le_of_ble_eq_true rfl, v_X4_hasRoomFor hT H0⟩
  · exact hT.elim

/-- a sheet -/
def isSh (a : Nat) : Prop := ∃ i, i < 4 ∧ a = 29 + 2 * i

def jfound (have_ asL : Int32) : Int32 := if have_ = -1 then -11 else if have_ = asL then 0 else -12



def jlow (l : Int) (v : Int32) : Int32 := if l = 0 then v.toInt8.toInt32 else if l = 1 then v.toInt16.toInt32 else v

def jhold (h : jM) (a : Nat) (l n : Int32) : jM := upr (up2 (up2 h a 0 l) a 1 n) (a + 1) (jfill 60 0 (h (a + 1)))

/-- the mark's cells once it is taken -/
def jtake (h : jM) (w : Int32) : jM :=
  let h1 := up2 (up2 (up2 h 24 0 1) 24 1 0) 24 2 w
  let h2 := upAnt h1 25 (h1 12 0) (h1 12 1) (h1 12 2) (h1 12 3)
  let h3 := upr h2 26 (va_cpy (h2 2) (h2 26) 0 0 57600)
  up2 (upr h3 27 (jfill 57600 0 (h3 27))) 24 3 0

/-! X6_isOn -/
def T_X6_isOn : jT := fun vs K h Q => match vs with
  | [.int x, .int y] => (Q (some (.int (jb (onF x y)))) K h)
  | _ => False
def sg_X6_isOn_0 : jS := [(o_iload 0, 1), (o_ic (-120), 2), (o_iclt 28, 3), (o_iload 0, 1), (o_ic (119), 2), (o_icgt 28, 3), (o_iload 1, 1), (o_ic (-120), 2), (o_iclt 28, 3), (o_iload 1, 1), (o_ic (119), 2), (o_icgt 28, 3), (o_ic (1), 1), (o_goto 29, 3)]
def sg_X6_isOn_28 : jS := [(o_ic (0), 1), (o_iretz, 1)]
def sg_X6_isOn_29 : jS := [(o_iretz, 1)]
def cd_X6_isOn : Nat → jS := fun t => match t with
  | 28 => sg_X6_isOn_28
  | 29 => sg_X6_isOn_29
  | _ => []
def E_X6_isOn (Γ : jΓ) (Q : jPost) : Prop := Γ.2.2.2.2.2.2.2.2.2.2.1 = 2 ∧ Γ.2.2.2.2.2.2.2.2.2.2.2.1 = vwCl ∧ jC Γ cX6_isOn RX6 "isOn" (some .boolean) wsX6_isOn 0 0 0 0 ∧ jR Γ Q 0 0
theorem oo_X6_isOn_0 {Γ : jΓ} {Q : jPost} (E : E_X6_isOn Γ Q) : jSA Γ Q 0 (o_iload 0) 1 := so_iload_n E.2.2.1 rfl dX6_isOn_0
theorem oo_X6_isOn_1 {Γ : jΓ} {Q : jPost} (E : E_X6_isOn Γ Q) : jSA Γ Q 1 (o_ic (-120)) 2 := so_bipush E.2.2.1 rfl dX6_isOn_1
theorem oo_X6_isOn_3 {Γ : jΓ} {Q : jPost} (E : E_X6_isOn Γ Q) : jSA Γ Q 3 (o_iclt 28) 3 := so_iclt E.2.2.1 (by decide) dX6_isOn_3
theorem oo_X6_isOn_6 {Γ : jΓ} {Q : jPost} (E : E_X6_isOn Γ Q) : jSA Γ Q 6 (o_iload 0) 1 := so_iload_n E.2.2.1 rfl dX6_isOn_6
theorem oo_X6_isOn_7 {Γ : jΓ} {Q : jPost} (E : E_X6_isOn Γ Q) : jSA Γ Q 7 (o_ic (119)) 2 := so_bipush E.2.2.1 rfl dX6_isOn_7
theorem oo_X6_isOn_9 {Γ : jΓ} {Q : jPost} (E : E_X6_isOn Γ Q) : jSA Γ Q 9 (o_icgt 28) 3 := so_icgt E.2.2.1 (by decide) dX6_isOn_9
theorem oo_X6_isOn_12 {Γ : jΓ} {Q : jPost} (E : E_X6_isOn Γ Q) : jSA Γ Q 12 (o_iload 1) 1 := so_iload_n E.2.2.1 rfl dX6_isOn_12
theorem oo_X6_isOn_13 {Γ : jΓ} {Q : jPost} (E : E_X6_isOn Γ Q) : jSA Γ Q 13 (o_ic (-120)) 2 := so_bipush E.2.2.1 rfl dX6_isOn_13
theorem oo_X6_isOn_15 {Γ : jΓ} {Q : jPost} (E : E_X6_isOn Γ Q) : jSA Γ Q 15 (o_iclt 28) 3 := so_iclt E.2.2.1 (by decide) dX6_isOn_15
theorem oo_X6_isOn_18 {Γ : jΓ} {Q : jPost} (E : E_X6_isOn Γ Q) : jSA Γ Q 18 (o_iload 1) 1 := so_iload_n E.2.2.1 rfl dX6_isOn_18
theorem oo_X6_isOn_19 {Γ : jΓ} {Q : jPost} (E : E_X6_isOn Γ Q) : jSA Γ Q 19 (o_ic (119)) 2 := so_bipush E.2.2.1 rfl dX6_isOn_19
theorem oo_X6_isOn_21 {Γ : jΓ} {Q : jPost} (E : E_X6_isOn Γ Q) : jSA Γ Q 21 (o_icgt 28) 3 := so_icgt E.2.2.1 (by decide) dX6_isOn_21
theorem oo_X6_isOn_24 {Γ : jΓ} {Q : jPost} (E : E_X6_isOn Γ Q) : jSA Γ Q 24 (o_ic (1)) 1 := so_iconst E.2.2.1 rfl dX6_isOn_24
theorem oo_X6_isOn_25 {Γ : jΓ} {Q : jPost} (E : E_X6_isOn Γ Q) : jSA Γ Q 25 (o_goto 29) 3 := so_goto E.2.2.1 (by decide) dX6_isOn_25
theorem oo_X6_isOn_28 {Γ : jΓ} {Q : jPost} (E : E_X6_isOn Γ Q) : jSA Γ Q 28 (o_ic (0)) 1 := so_iconst E.2.2.1 rfl dX6_isOn_28
theorem oo_X6_isOn_29 {Γ : jΓ} {Q : jPost} (E : E_X6_isOn Γ Q) : jSA Γ Q 29 (o_iretz) 1 := so_iretz E.2.2.1 E.2.2.2 dX6_isOn_29
theorem ok_X6_isOn_0 {Γ : jΓ} {Q : jPost} (E : E_X6_isOn Γ Q) : jSS Γ Q 0 sg_X6_isOn_0 := ⟨oo_X6_isOn_0 E, oo_X6_isOn_1 E, oo_X6_isOn_3 E, oo_X6_isOn_6 E, oo_X6_isOn_7 E, oo_X6_isOn_9 E, oo_X6_isOn_12 E, oo_X6_isOn_13 E, oo_X6_isOn_15 E, oo_X6_isOn_18 E, oo_X6_isOn_19 E, oo_X6_isOn_21 E, oo_X6_isOn_24 E, oo_X6_isOn_25 E, trivial⟩
theorem ok_X6_isOn_28 {Γ : jΓ} {Q : jPost} (E : E_X6_isOn Γ Q) : jSS Γ Q 28 sg_X6_isOn_28 := ⟨oo_X6_isOn_28 E, oo_X6_isOn_29 E, trivial⟩
theorem ok_X6_isOn_29 {Γ : jΓ} {Q : jPost} (E : E_X6_isOn Γ Q) : jSS Γ Q 29 sg_X6_isOn_29 := ⟨oo_X6_isOn_29 E, trivial⟩
theorem okc_X6_isOn {Γ : jΓ} {Q : jPost} (E : E_X6_isOn Γ Q) (t : Nat) : jSS Γ Q t (cd_X6_isOn t) := by
  unfold cd_X6_isOn
  split
  · exact ok_X6_isOn_28 E
  · exact ok_X6_isOn_29 E
  · trivial
theorem m_X6_isOn_of (l : Launch) (hv : ∀ (G : jGt) (Q : jPost) (vs : List Value) (K : List jK) (h : jM), jHd cd_X6_isOn G Q sg_X6_isOn_0 0 → T_X6_isOn vs K h Q → (lg_sl vs).length ≤ 2 ∧ G 0 (jinit vs 2) [] K h 0 0) : jHolds vwCl l yX6_isOn wsX6_isOn 0 0 0 0 T_X6_isOn := by
  refine jMet (cc := cX6_isOn) (maxL := 2) (rt := (some .boolean)) (by decide +kernel) rfl (fun Γ Q vs K h hl hn hcl C hR hT => hv (jG Γ) Q vs K h ?_ hT)
  · exact fun n L st K h ce sl => jwp_ok (okc_X6_isOn ⟨hn, hcl, C, hR⟩) n sg_X6_isOn_0 0 (ok_X6_isOn_0 ⟨hn, hcl, C, hR⟩) L st K h ce sl
set_option maxHeartbeats 4000000 in
set_option maxRecDepth 100000 in
theorem v_X6_isOn {G : jGt} {Q : jPost} {K : List jK} {h : jM} {x : Int32} {y : Int32} (hT : Q (some (.int (jb (onF x y)))) K h) (H0 : jHd cd_X6_isOn G Q sg_X6_isOn_0 0) : G 0 [some (.int x), some (.int y)] [] K h 0 0 := by
  refine H0 30 _ _ _ _ _ _ ?_
  simp only [sg_X6_isOn_0, sg_X6_isOn_28, sg_X6_isOn_29, cd_X6_isOn, jwp, o_ic, o_lc, o_iload, o_lload, o_aload, o_istore, o_lstore, o_astore, o_iinc, o_pop, o_dup, o_dup2, o_iadd, o_isub, o_imul, o_iand, o_ior, o_ishl, o_ladd, o_lmul, o_land, o_lor, o_idiv, o_irem, o_ineg, o_i2l, o_l2i, o_i2b, o_i2s, o_lushr, o_lshr, o_lshl, o_lcmp, o_ifeq, o_ifne, o_iflt, o_ifge, o_ifgt, o_ifle, o_iceq, o_icne, o_iclt, o_icge, o_icgt, o_icle, o_goto, o_tsw, jsw, o_lsw, jlk, o_getf, o_putf, o_putz, o_iald, o_zald, o_iast, o_zast, o_aald, o_alen, o_gets, o_zld, o_zlen, o_cpy, o_call, o_callV, o_ireti, o_iretz, o_lret, o_vret, jg, js, jkp, jkill, jsp, jcs, jfw, jov, Value.category, Option.toList_some, Option.toList_none, List.nil_append, List.cons_append, List.append_nil, Nat.reduceAdd, true_and, and_true, jb0, jb01, jb1, jem, true_or, or_true, Classical.not_not, forall_const, List.length_cons, List.length_nil, Nat.reduceLeDiff, Nat.zero_le, Nat.reduceLT]
  unfold jb onF at hT
  grind
theorem m_X6_isOn (l : Launch) : jHolds vwCl l yX6_isOn wsX6_isOn 0 0 0 0 T_X6_isOn := by
  refine m_X6_isOn_of l (fun G Q vs K h H0 hT => ?_)
  unfold T_X6_isOn at hT
  split at hT
  · skip
    exact ⟨Nat.le_of_ble_eq_true rfl, v_X6_isOn hT H0⟩
  · exact hT.elim

/-! X6_isRule -/
def T_X6_isRule : jT := fun vs K h Q => match vs with
  | [.int r] => (Q (some (.int (jb (0 ≤ r ∧ r ≤ 3)))) K h)
  | _ => False
def sg_X6_isRule_0 : jS := [(o_iload 0, 1), (o_ic (0), 1), (o_ic (3), 1), (o_call 3 T_X6_isWithin, 3), (o_iretz, 1)]
def cd_X6_isRule : Nat → jS := fun t => match t with
  | _ => []
def E_X6_isRule (Γ : jΓ) (Q : jPost) : Prop := Γ.2.2.2.2.2.2.2.2.2.2.1 = 1 ∧ Γ.2.2.2.2.2.2.2.2.2.2.2.1 = vwCl ∧ jC Γ cX6_isRule RX6 "isRule" (some .boolean) wsX6_isRule 1 22 0 0 ∧ jR Γ Q 0 0
theorem oo_X6_isRule_0 {Γ : jΓ} {Q : jPost} (E : E_X6_isRule Γ Q) : jSA Γ Q 0 (o_iload 0) 1 := so_iload_n E.2.2.1 rfl dX6_isRule_0
theorem oo_X6_isRule_1 {Γ : jΓ} {Q : jPost} (E : E_X6_isRule Γ Q) : jSA Γ Q 1 (o_ic (0)) 1 := so_iconst E.2.2.1 rfl dX6_isRule_1
theorem oo_X6_isRule_2 {Γ : jΓ} {Q : jPost} (E : E_X6_isRule Γ Q) : jSA Γ Q 2 (o_ic (3)) 1 := so_iconst E.2.2.1 rfl dX6_isRule_2
theorem oo_X6_isRule_3 {Γ : jΓ} {Q : jPost} (E : E_X6_isRule Γ Q) : jSA Γ Q 3 (o_call 3 T_X6_isWithin) 3 := so_callS E.2.2.1 gX6_isRule_X6_isWithin (by decide +kernel) rfl (by rw [E.2.1]; exact m_X6_isWithin _) (by decide) (by decide) dX6_isRule_3
theorem oo_X6_isRule_6 {Γ : jΓ} {Q : jPost} (E : E_X6_isRule Γ Q) : jSA Γ Q 6 (o_iretz) 1 := so_iretz E.2.2.1 E.2.2.2 dX6_isRule_6
theorem ok_X6_isRule_0 {Γ : jΓ} {Q : jPost} (E : E_X6_isRule Γ Q) : jSS Γ Q 0 sg_X6_isRule_0 := ⟨oo_X6_isRule_0 E, oo_X6_isRule_1 E, oo_X6_isRule_2 E, oo_X6_isRule_3 E, oo_X6_isRule_6 E, trivial⟩
theorem okc_X6_isRule {Γ : jΓ} {Q : jPost} (E : E_X6_isRule Γ Q) (t : Nat) : jSS Γ Q t (cd_X6_isRule t) := by
  unfold cd_X6_isRule
  trivial
theorem m_X6_isRule_of (l : Launch) (hv : ∀ (G : jGt) (Q : jPost) (vs : List Value) (K : List jK) (h : jM), jHd cd_X6_isRule G Q sg_X6_isRule_0 0 → T_X6_isRule vs K h Q → (lg_sl vs).length ≤ 1 ∧ G 0 (jinit vs 1) [] K h 0 0) : jHolds vwCl l yX6_isRule wsX6_isRule 1 22 0 0 T_X6_isRule := by
  refine jMet (cc := cX6_isRule) (maxL := 1) (rt := (some .boolean)) (by decide +kernel) rfl (fun Γ Q vs K h hl hn hcl C hR hT => hv (jG Γ) Q vs K h ?_ hT)
  · exact fun n L st K h ce sl => jwp_ok (okc_X6_isRule ⟨hn, hcl, C, hR⟩) n sg_X6_isRule_0 0 (ok_X6_isRule_0 ⟨hn, hcl, C, hR⟩) L st K h ce sl
set_option maxHeartbeats 4000000 in
set_option maxRecDepth 100000 in
theorem v_X6_isRule {G : jGt} {Q : jPost} {K : List jK} {h : jM} {r : Int32} (hT : Q (some (.int (jb (0 ≤ r ∧ r ≤ 3)))) K h) (H0 : jHd cd_X6_isRule G Q sg_X6_isRule_0 0) : G 0 [some (.int r)] [] K h 0 0 := by
  refine H0 30 _ _ _ _ _ _ ?_
  simp only [sg_X6_isRule_0, cd_X6_isRule, jwp, o_ic, o_lc, o_iload, o_lload, o_aload, o_istore, o_lstore, o_astore, o_iinc, o_pop, o_dup, o_dup2, o_iadd, o_isub, o_imul, o_iand, o_ior, o_ishl, o_ladd, o_lmul, o_land, o_lor, o_idiv, o_irem, o_ineg, o_i2l, o_l2i, o_i2b, o_i2s, o_lushr, o_lshr, o_lshl, o_lcmp, o_ifeq, o_ifne, o_iflt, o_ifge, o_ifgt, o_ifle, o_iceq, o_icne, o_iclt, o_icge, o_icgt, o_icle, o_goto, o_tsw, jsw, o_lsw, jlk, o_getf, o_putf, o_putz, o_iald, o_zald, o_iast, o_zast, o_aald, o_alen, o_gets, o_zld, o_zlen, o_cpy, o_call, o_callV, o_ireti, o_iretz, o_lret, o_vret, jg, js, jkp, jkill, jsp, jcs, jfw, jov, Value.category, Option.toList_some, Option.toList_none, List.nil_append, List.cons_append, List.append_nil, Nat.reduceAdd, true_and, and_true, jb0, jb01, jb1, jem, true_or, or_true, Classical.not_not, forall_const, List.length_cons, List.length_nil, Nat.reduceLeDiff, Nat.zero_le, Nat.reduceLT, T_X6_isWithin]
  exact hT
theorem m_X6_isRule (l : Launch) : jHolds vwCl l yX6_isRule wsX6_isRule 1 22 0 0 T_X6_isRule := by
  refine m_X6_isRule_of l (fun G Q vs K h H0 hT => ?_)
  unfold T_X6_isRule at hT
  split at hT
  · skip
    exact ⟨Nat.le_of_ble_eq_true rfl, v_X6_isRule hT H0⟩
  · exact hT.elim





/-! X6_placeOf -/
/-- where a cell stands in a row of all cells -/
noncomputable def jpl (x y : Int32) : Int32 := @ite Int32 (onF x y) (Classical.propDecidable _) ((y - -120) * 240 + (x - -120)) (-1)
def T_X6_placeOf : jT := fun vs K h Q => match vs with
  | [.int x, .int y] => (Q (some (.int (jpl x y))) K h)
  | _ => False
def sg_X6_placeOf_0 : jS := [(o_iload 0, 1), (o_iload 1, 1), (o_call 2 T_X6_isOn, 3), (o_ifeq 24, 3), (o_iload 1, 1), (o_ic (-120), 2), (o_isub, 1), (o_ic (240), 3), (o_imul, 1), (o_iload 0, 1), (o_ic (-120), 2), (o_isub, 1), (o_iadd, 1), (o_goto 25, 3)]
def sg_X6_placeOf_24 : jS := [(o_ic (-1), 1), (o_ireti, 1)]
def sg_X6_placeOf_25 : jS := [(o_ireti, 1)]
def cd_X6_placeOf : Nat → jS := fun t => match t with
  | 24 => sg_X6_placeOf_24
  | 25 => sg_X6_placeOf_25
  | _ => []
def E_X6_placeOf (Γ : jΓ) (Q : jPost) : Prop := Γ.2.2.2.2.2.2.2.2.2.2.1 = 2 ∧ Γ.2.2.2.2.2.2.2.2.2.2.2.1 = vwCl ∧ jC Γ cX6_placeOf RX6 "placeOf" (some .int) wsX6_placeOf 1 21 0 0 ∧ jR Γ Q 0 0
theorem oo_X6_placeOf_0 {Γ : jΓ} {Q : jPost} (E : E_X6_placeOf Γ Q) : jSA Γ Q 0 (o_iload 0) 1 := so_iload_n E.2.2.1 rfl dX6_placeOf_0
theorem oo_X6_placeOf_1 {Γ : jΓ} {Q : jPost} (E : E_X6_placeOf Γ Q) : jSA Γ Q 1 (o_iload 1) 1 := so_iload_n E.2.2.1 rfl dX6_placeOf_1
theorem oo_X6_placeOf_2 {Γ : jΓ} {Q : jPost} (E : E_X6_placeOf Γ Q) : jSA Γ Q 2 (o_call 2 T_X6_isOn) 3 := so_callS E.2.2.1 gX6_placeOf_X6_isOn (by decide +kernel) rfl (by rw [E.2.1]; exact m_X6_isOn _) (by decide) (by decide) dX6_placeOf_2
theorem oo_X6_placeOf_5 {Γ : jΓ} {Q : jPost} (E : E_X6_placeOf Γ Q) : jSA Γ Q 5 (o_ifeq 24) 3 := so_ifeq E.2.2.1 (by decide) dX6_placeOf_5
theorem oo_X6_placeOf_8 {Γ : jΓ} {Q : jPost} (E : E_X6_placeOf Γ Q) : jSA Γ Q 8 (o_iload 1) 1 := so_iload_n E.2.2.1 rfl dX6_placeOf_8
theorem oo_X6_placeOf_9 {Γ : jΓ} {Q : jPost} (E : E_X6_placeOf Γ Q) : jSA Γ Q 9 (o_ic (-120)) 2 := so_bipush E.2.2.1 rfl dX6_placeOf_9
theorem oo_X6_placeOf_11 {Γ : jΓ} {Q : jPost} (E : E_X6_placeOf Γ Q) : jSA Γ Q 11 (o_isub) 1 := so_isub E.2.2.1 dX6_placeOf_11
theorem oo_X6_placeOf_12 {Γ : jΓ} {Q : jPost} (E : E_X6_placeOf Γ Q) : jSA Γ Q 12 (o_ic (240)) 3 := so_sipush E.2.2.1 rfl dX6_placeOf_12
theorem oo_X6_placeOf_15 {Γ : jΓ} {Q : jPost} (E : E_X6_placeOf Γ Q) : jSA Γ Q 15 (o_imul) 1 := so_imul E.2.2.1 dX6_placeOf_15
theorem oo_X6_placeOf_16 {Γ : jΓ} {Q : jPost} (E : E_X6_placeOf Γ Q) : jSA Γ Q 16 (o_iload 0) 1 := so_iload_n E.2.2.1 rfl dX6_placeOf_16
theorem oo_X6_placeOf_17 {Γ : jΓ} {Q : jPost} (E : E_X6_placeOf Γ Q) : jSA Γ Q 17 (o_ic (-120)) 2 := so_bipush E.2.2.1 rfl dX6_placeOf_17
theorem oo_X6_placeOf_19 {Γ : jΓ} {Q : jPost} (E : E_X6_placeOf Γ Q) : jSA Γ Q 19 (o_isub) 1 := so_isub E.2.2.1 dX6_placeOf_19
theorem oo_X6_placeOf_20 {Γ : jΓ} {Q : jPost} (E : E_X6_placeOf Γ Q) : jSA Γ Q 20 (o_iadd) 1 := so_iadd E.2.2.1 dX6_placeOf_20
theorem oo_X6_placeOf_21 {Γ : jΓ} {Q : jPost} (E : E_X6_placeOf Γ Q) : jSA Γ Q 21 (o_goto 25) 3 := so_goto E.2.2.1 (by decide) dX6_placeOf_21
theorem oo_X6_placeOf_24 {Γ : jΓ} {Q : jPost} (E : E_X6_placeOf Γ Q) : jSA Γ Q 24 (o_ic (-1)) 1 := so_iconst E.2.2.1 rfl dX6_placeOf_24
theorem oo_X6_placeOf_25 {Γ : jΓ} {Q : jPost} (E : E_X6_placeOf Γ Q) : jSA Γ Q 25 (o_ireti) 1 := so_ireti E.2.2.1 E.2.2.2 dX6_placeOf_25
theorem ok_X6_placeOf_0 {Γ : jΓ} {Q : jPost} (E : E_X6_placeOf Γ Q) : jSS Γ Q 0 sg_X6_placeOf_0 := ⟨oo_X6_placeOf_0 E, oo_X6_placeOf_1 E, oo_X6_placeOf_2 E, oo_X6_placeOf_5 E, oo_X6_placeOf_8 E, oo_X6_placeOf_9 E, oo_X6_placeOf_11 E, oo_X6_placeOf_12 E, oo_X6_placeOf_15 E, oo_X6_placeOf_16 E, oo_X6_placeOf_17 E, oo_X6_placeOf_19 E, oo_X6_placeOf_20 E, oo_X6_placeOf_21 E, trivial⟩
theorem ok_X6_placeOf_24 {Γ : jΓ} {Q : jPost} (E : E_X6_placeOf Γ Q) : jSS Γ Q 24 sg_X6_placeOf_24 := ⟨oo_X6_placeOf_24 E, oo_X6_placeOf_25 E, trivial⟩
theorem ok_X6_placeOf_25 {Γ : jΓ} {Q : jPost} (E : E_X6_placeOf Γ Q) : jSS Γ Q 25 sg_X6_placeOf_25 := ⟨oo_X6_placeOf_25 E, trivial⟩
theorem okc_X6_placeOf {Γ : jΓ} {Q : jPost} (E : E_X6_placeOf Γ Q) (t : Nat) : jSS Γ Q t (cd_X6_placeOf t) := by
  unfold cd_X6_placeOf
  split
  · exact ok_X6_placeOf_24 E
  · exact ok_X6_placeOf_25 E
  · trivial
theorem m_X6_placeOf_of (l : Launch) (hv : ∀ (G : jGt) (Q : jPost) (vs : List Value) (K : List jK) (h : jM), jHd cd_X6_placeOf G Q sg_X6_placeOf_0 0 → T_X6_placeOf vs K h Q → (lg_sl vs).length ≤ 2 ∧ G 0 (jinit vs 2) [] K h 0 0) : jHolds vwCl l yX6_placeOf wsX6_placeOf 1 21 0 0 T_X6_placeOf := by
  refine jMet (cc := cX6_placeOf) (maxL := 2) (rt := (some .int)) (by decide +kernel) rfl (fun Γ Q vs K h hl hn hcl C hR hT => hv (jG Γ) Q vs K h ?_ hT)
  · exact fun n L st K h ce sl => jwp_ok (okc_X6_placeOf ⟨hn, hcl, C, hR⟩) n sg_X6_placeOf_0 0 (ok_X6_placeOf_0 ⟨hn, hcl, C, hR⟩) L st K h ce sl
set_option maxHeartbeats 4000000 in
set_option maxRecDepth 100000 in
theorem v_X6_placeOf {G : jGt} {Q : jPost} {K : List jK} {h : jM} {x : Int32} {y : Int32} (hT : Q (some (.int (jpl x y))) K h) (H0 : jHd cd_X6_placeOf G Q sg_X6_placeOf_0 0) : G 0 [some (.int x), some (.int y)] [] K h 0 0 := by
  refine H0 30 _ _ _ _ _ _ ?_
  simp only [sg_X6_placeOf_0, sg_X6_placeOf_24, sg_X6_placeOf_25, cd_X6_placeOf, jwp, o_ic, o_lc, o_iload, o_lload, o_aload, o_istore, o_lstore, o_astore, o_iinc, o_pop, o_dup, o_dup2, o_iadd, o_isub, o_imul, o_iand, o_ior, o_ishl, o_ladd, o_lmul, o_land, o_lor, o_idiv, o_irem, o_ineg, o_i2l, o_l2i, o_i2b, o_i2s, o_lushr, o_lshr, o_lshl, o_lcmp, o_ifeq, o_ifne, o_iflt, o_ifge, o_ifgt, o_ifle, o_iceq, o_icne, o_iclt, o_icge, o_icgt, o_icle, o_goto, o_tsw, jsw, o_lsw, jlk, o_getf, o_putf, o_putz, o_iald, o_zald, o_iast, o_zast, o_aald, o_alen, o_gets, o_zld, o_zlen, o_cpy, o_call, o_callV, o_ireti, o_iretz, o_lret, o_vret, jg, js, jkp, jkill, jsp, jcs, jfw, jov, Value.category, Option.toList_some, Option.toList_none, List.nil_append, List.cons_append, List.append_nil, Nat.reduceAdd, true_and, and_true, jb0, jb01, jb1, jem, true_or, or_true, Classical.not_not, forall_const, List.length_cons, List.length_nil, Nat.reduceLeDiff, Nat.zero_le, Nat.reduceLT, T_X6_isOn]
  unfold jpl at hT
  refine ⟨fun c => ?_, fun c => ?_⟩
  · rw [if_neg c] at hT
    exact hT
  · rw [if_pos c] at hT
    exact hT
theorem m_X6_placeOf (l : Launch) : jHolds vwCl l yX6_placeOf wsX6_placeOf 1 21 0 0 T_X6_placeOf := by
  refine m_X6_placeOf_of l (fun G Q vs K h H0 hT => ?_)
  unfold T_X6_placeOf at hT
  split at hT
  · skip
    exact ⟨Nat.le_of_ble_eq_true rfl, v_X6_placeOf hT H0⟩
  · exact hT.elim



def jimX (w : Int) (a x y : Int32) : Int32 := if w = 2 then x else if w = 3 then y + a else if w = 4 then a - y else a - x

def jimY (w : Int) (a b x y : Int32) : Int32 := if w = 1 then y else if w = 3 then x - a else if w = 4 then a - x else b - y
