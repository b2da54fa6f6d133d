/-! ===== the law's cell: a script's int, or one made of its place ===== -/
def o_ishr : jO := fun _ _ nx L st K h ce sl => match st with
  | .int y :: .int x :: r => nx L (.int (x >>> (y &&& 31)) :: r) K h ce sl
  | _ => False
theorem so_ishr {Γ : jΓ} {Q : jPost} {cc : ByteArray} {own nm : String} {rt : Option FieldType} {ws : List Cond} {fr lo mc ms : Nat} (C : jC Γ cc own nm rt ws fr lo mc ms) {pc : Nat}  (hd : decode cc pc = .ok (.ishr, 1)) : jSA Γ Q pc (o_ishr) 1 := by
  obtain ⟨p, l, e, R, s, m, args, below, meth, c, nL, cl, D, cid, A, ad0, k0, Qf⟩ := Γ
  obtain ⟨hx, hb, hml, hown, hr, hnm, hts, hlocks, hK, hA, hZ, hfr, hlo, hmc, hms, hXt⟩ := C
  intro J nx hJ hn L st K h ce sl ho
  unfold o_ishr at ho
  split at ho
  · intro hk ad H locs ls h1 h2 h3 h4 h5
    exact lv_ishr hx hb hd (hn _ _ _ _ _ _ ho hk ad H locs ls h1 h2 h3 h4 h5)
  · exact ho.elim
/-- locals that are no longer asked for -/
def jfg : jL → jL → Prop
  | [], [] => True
  | a :: r, b :: s => (b = none ∨ b = a) ∧ jfg r s
  | _, _ => False
theorem jfg_g : ∀ {L M : jL}, jfg L M → ∀ (i : Nat) (v : Value), jg M i = some v → jg L i = some v
  | [], [], _, i, v, h => h
  | a :: r, b :: s, h, 0, v, hv => by
    rcases h.1 with z | z
    · simp only [jg] at hv
      rw [z] at hv
      cases hv
    · simp only [jg] at hv ⊢
      rw [← z]
      exact hv
  | a :: r, b :: s, h, i + 1, v, hv => jfg_g h.2 i v hv
theorem jG_fg {Γ : jΓ} {pc : Nat} {L M : jL} {st : List Value} {K : List jK} {h : jM} {ce sl : Nat} (hf : jfg L M) (hG : jG Γ pc M st K h ce sl) : jG Γ pc L st K h ce sl := by
  obtain ⟨p, l, e, R, s, m, args, below, meth, c, nL, cl, D, cid, A, ad0, k0, Qf⟩ := Γ
  intro hk ad H locs ls h1 h2 h3 h4 h5
  refine hG hk ad H locs ls h1 h2 h3 h4 ⟨h5.1, h5.2.1, fun x hx => ?_⟩
  obtain ⟨j, w⟩ := x
  obtain ⟨u, hu, rfl⟩ := (jasc_mem _ _ j w).mp hx
  exact jLh_at h5 (jfg_g hf j u hu)
/-- a cell of the script -/
def cellC (LL : Nat) (xs : Nat → Int32) (k : Int32) : Nat := ((if nI LL ≤ k then 15485957 * k + 107 else xs k.toNatClampNeg) &&& 2147483647 : Int32).toNatClampNeg
theorem and_max (v : Int32) : 0 ≤ (v &&& 2147483647).toInt := by
  have h : (v &&& 2147483647).toBitVec.msb = false := by
    rw [Int32.toBitVec_and, BitVec.msb_and]
    have : (2147483647 : Int32).toBitVec.msb = false := by decide
    rw [this, Bool.and_false]
  have h2 := BitVec.msb_eq_toInt (x := (v &&& 2147483647).toBitVec)
  rw [h] at h2
  have h3 : ¬ (v &&& 2147483647).toBitVec.toInt < 0 := by simpa using h2
  show 0 ≤ (v &&& 2147483647).toBitVec.toInt
  omega
theorem cellC_lt (LL : Nat) (xs : Nat → Int32) (k : Int32) : cellC LL xs k < 2147483648 := by
  have h1 := clamp_int (and_max (if nI LL ≤ k then 15485957 * k + 107 else xs k.toNatClampNeg))
  have h2 := ((if nI LL ≤ k then 15485957 * k + 107 else xs k.toNatClampNeg) &&& 2147483647 : Int32).toInt_lt
  unfold cellC
  omega
def T_L_cell (LL : Nat) (xs : Nat → Int32) : jT := fun vs K h Q => match vs with
  | [.ref r0, .int k] => r0 = 2000 ∧ 0 ≤ k.toInt ∧ Q (some (.int (nI (cellC LL xs k)))) K h
  | _ => False
def sg_L_cell_0 (LL : Nat) (xs : Nat → Int32) : jS := [(o_iload 1, 1), (o_aload 0, 1), (o_slen LL, 1), (o_icge 12, 3), (o_aload 0, 1), (o_iload 1, 1), (o_sld LL xs, 1), (o_goto 19, 3)]
def sg_L_cell_12 (LL : Nat) (xs : Nat → Int32) : jS := [(o_ic (15485957), 2), (o_iload 1, 1), (o_imul, 1), (o_ic (107), 2), (o_iadd, 1), (o_ic (2147483647), 2), (o_iand, 1), (o_ireti, 1)]
def sg_L_cell_19 (LL : Nat) (xs : Nat → Int32) : jS := [(o_ic (2147483647), 2), (o_iand, 1), (o_ireti, 1)]
def cd_L_cell (LL : Nat) (xs : Nat → Int32) : Nat → jS := fun t => match t with
  | 12 => sg_L_cell_12 LL xs
  | 19 => sg_L_cell_19 LL xs
  | _ => []
def E_L_cell (LL : Nat) (xs : Nat → Int32) (Γ : jΓ) (Q : jPost) : Prop := Γ.2.2.2.2.2.2.2.2.2.2.1 = 2 ∧ Γ.2.2.2.2.2.2.2.2.2.2.2.1 = vwCl ∧ jC Γ cL_cell RL "cell" (some .int) wsL_cell 0 0 0 0 ∧ jR Γ Q 0 0 ∧ LL ≤ 260 ∧ ∃ b, jSc Γ b LL xs
theorem oo_L_cell_0 {Γ : jΓ} {Q : jPost} {LL : Nat} {xs : Nat → Int32} (E : E_L_cell LL xs Γ Q) : jSA Γ Q 0 (o_iload 1) 1 := by
  have C := E.2.2.1
  exact so_iload_n C rfl dL_cell_0
theorem oo_L_cell_1 {Γ : jΓ} {Q : jPost} {LL : Nat} {xs : Nat → Int32} (E : E_L_cell LL xs Γ Q) : jSA Γ Q 1 (o_aload 0) 1 := by
  have C := E.2.2.1
  exact so_aload_n C rfl dL_cell_1
theorem oo_L_cell_2 {Γ : jΓ} {Q : jPost} {LL : Nat} {xs : Nat → Int32} (E : E_L_cell LL xs Γ Q) : jSA Γ Q 2 (o_slen LL) 1 := by
  have C := E.2.2.1
  obtain ⟨b0, S⟩ := E.2.2.2.2.2
  exact so_slen C S dL_cell_2
theorem oo_L_cell_3 {Γ : jΓ} {Q : jPost} {LL : Nat} {xs : Nat → Int32} (E : E_L_cell LL xs Γ Q) : jSA Γ Q 3 (o_icge 12) 3 := by
  have C := E.2.2.1
  exact so_icge C (by decide) dL_cell_3
theorem oo_L_cell_6 {Γ : jΓ} {Q : jPost} {LL : Nat} {xs : Nat → Int32} (E : E_L_cell LL xs Γ Q) : jSA Γ Q 6 (o_aload 0) 1 := by
  have C := E.2.2.1
  exact so_aload_n C rfl dL_cell_6
theorem oo_L_cell_7 {Γ : jΓ} {Q : jPost} {LL : Nat} {xs : Nat → Int32} (E : E_L_cell LL xs Γ Q) : jSA Γ Q 7 (o_iload 1) 1 := by
  have C := E.2.2.1
  exact so_iload_n C rfl dL_cell_7
theorem oo_L_cell_8 {Γ : jΓ} {Q : jPost} {LL : Nat} {xs : Nat → Int32} (E : E_L_cell LL xs Γ Q) : jSA Γ Q 8 (o_sld LL xs) 1 := by
  have C := E.2.2.1
  obtain ⟨b0, S⟩ := E.2.2.2.2.2
  exact so_sld C S dL_cell_8
theorem oo_L_cell_9 {Γ : jΓ} {Q : jPost} {LL : Nat} {xs : Nat → Int32} (E : E_L_cell LL xs Γ Q) : jSA Γ Q 9 (o_goto 19) 3 := by
  have C := E.2.2.1
  exact so_goto C (by decide) dL_cell_9
theorem oo_L_cell_12 {Γ : jΓ} {Q : jPost} {LL : Nat} {xs : Nat → Int32} (E : E_L_cell LL xs Γ Q) : jSA Γ Q 12 (o_ic (15485957)) 2 := by
  have C := E.2.2.1
  exact so_ldc C (by decide +kernel) dL_cell_12
theorem oo_L_cell_14 {Γ : jΓ} {Q : jPost} {LL : Nat} {xs : Nat → Int32} (E : E_L_cell LL xs Γ Q) : jSA Γ Q 14 (o_iload 1) 1 := by
  have C := E.2.2.1
  exact so_iload_n C rfl dL_cell_14
theorem oo_L_cell_15 {Γ : jΓ} {Q : jPost} {LL : Nat} {xs : Nat → Int32} (E : E_L_cell LL xs Γ Q) : jSA Γ Q 15 (o_imul) 1 := by
  have C := E.2.2.1
  exact so_imul C dL_cell_15
theorem oo_L_cell_16 {Γ : jΓ} {Q : jPost} {LL : Nat} {xs : Nat → Int32} (E : E_L_cell LL xs Γ Q) : jSA Γ Q 16 (o_ic (107)) 2 := by
  have C := E.2.2.1
  exact so_bipush C rfl dL_cell_16
theorem oo_L_cell_18 {Γ : jΓ} {Q : jPost} {LL : Nat} {xs : Nat → Int32} (E : E_L_cell LL xs Γ Q) : jSA Γ Q 18 (o_iadd) 1 := by
  have C := E.2.2.1
  exact so_iadd C dL_cell_18
theorem oo_L_cell_19 {Γ : jΓ} {Q : jPost} {LL : Nat} {xs : Nat → Int32} (E : E_L_cell LL xs Γ Q) : jSA Γ Q 19 (o_ic (2147483647)) 2 := by
  have C := E.2.2.1
  exact so_ldc C (by decide +kernel) dL_cell_19
theorem oo_L_cell_21 {Γ : jΓ} {Q : jPost} {LL : Nat} {xs : Nat → Int32} (E : E_L_cell LL xs Γ Q) : jSA Γ Q 21 (o_iand) 1 := by
  have C := E.2.2.1
  exact so_iand C dL_cell_21
theorem oo_L_cell_22 {Γ : jΓ} {Q : jPost} {LL : Nat} {xs : Nat → Int32} (E : E_L_cell LL xs Γ Q) : jSA Γ Q 22 (o_ireti) 1 := by
  have C := E.2.2.1
  exact so_ireti C E.2.2.2.1 dL_cell_22
theorem ok_L_cell_0 {Γ : jΓ} {Q : jPost} {LL : Nat} {xs : Nat → Int32} (E : E_L_cell LL xs Γ Q) : jSS Γ Q 0 (sg_L_cell_0 LL xs) := ⟨oo_L_cell_0 E, oo_L_cell_1 E, oo_L_cell_2 E, oo_L_cell_3 E, oo_L_cell_6 E, oo_L_cell_7 E, oo_L_cell_8 E, oo_L_cell_9 E, trivial⟩
theorem ok_L_cell_12 {Γ : jΓ} {Q : jPost} {LL : Nat} {xs : Nat → Int32} (E : E_L_cell LL xs Γ Q) : jSS Γ Q 12 (sg_L_cell_12 LL xs) := ⟨oo_L_cell_12 E, oo_L_cell_14 E, oo_L_cell_15 E, oo_L_cell_16 E, oo_L_cell_18 E, oo_L_cell_19 E, oo_L_cell_21 E, oo_L_cell_22 E, trivial⟩
theorem ok_L_cell_19 {Γ : jΓ} {Q : jPost} {LL : Nat} {xs : Nat → Int32} (E : E_L_cell LL xs Γ Q) : jSS Γ Q 19 (sg_L_cell_19 LL xs) := ⟨oo_L_cell_19 E, oo_L_cell_21 E, oo_L_cell_22 E, trivial⟩
theorem okc_L_cell {Γ : jΓ} {Q : jPost} {LL : Nat} {xs : Nat → Int32} (E : E_L_cell LL xs Γ Q) (t : Nat) : jSS Γ Q t (cd_L_cell LL xs t) := by
  unfold cd_L_cell
  split
  · exact ok_L_cell_12 E
  · exact ok_L_cell_19 E
  · trivial
theorem H_L_cell_0 {Γ : jΓ} {Q : jPost} {LL : Nat} {xs : Nat → Int32} (E : E_L_cell LL xs Γ Q) (n : Nat) (L : jL) (st : List Value) (K : List jK) (h : jM) (ce sl : Nat) (hw : jwp (cd_L_cell LL xs) (jG Γ) Q n (sg_L_cell_0 LL xs) 0 L st K h ce sl) : jG Γ 0 L st K h ce sl := jwp_ok (okc_L_cell E) n (sg_L_cell_0 LL xs) 0 (ok_L_cell_0 E) L st K h ce sl hw
theorem v_L_cell {Γ : jΓ} {Q : jPost} {LL : Nat} {xs : Nat → Int32} (E : E_L_cell LL xs Γ Q) {K : List jK} {h : jM} {k : Int32} (hk : 0 ≤ k.toInt) (hT : Q (some (.int (nI (cellC LL xs k)))) K h) : jG Γ 0 [some (.ref 2000), some (.int k)] [] K h 0 0 := by
  have hL := E.2.2.2.2.1
  have eL : (nI LL).toInt = (LL : Int) := nI_toInt (by omega)
  refine H_L_cell_0 E 60 _ _ _ _ _ _ ?_
  have e9 := nI_clampI (and_max (if nI LL ≤ k then 15485957 * k + 107 else xs k.toNatClampNeg))
  unfold cellC at hT
  rw [e9] at hT
  by_cases c : nI LL ≤ k
  · rw [if_pos c] at hT
    simp only [sg_L_cell_0, sg_L_cell_12, sg_L_cell_19, cd_L_cell, jwp, o_ic, o_lc, o_iload, o_lload, o_aload, o_istore, o_lstore, o_astore, o_iinc, o_pop, o_dup, o_dup2, o_iadd, o_isub, o_imul, o_iand, o_ior, o_ishl, o_ladd, o_lmul, o_land, o_lor, o_idiv, o_irem, o_ineg, o_i2l, o_l2i, o_i2b, o_i2s, o_lushr, o_lshr, o_lshl, o_lcmp, o_ifeq, o_ifne, o_iflt, o_ifge, o_ifgt, o_ifle, o_iceq, o_icne, o_iclt, o_icge, o_icgt, o_icle, o_goto, o_tsw, jsw, o_lsw, jlk, o_getf, o_putf, o_putz, o_iald, o_zald, o_iast, o_zast, o_aald, o_alen, o_gets, o_zld, o_zlen, o_cpy, o_call, o_callV, o_ireti, o_iretz, o_lret, o_vret, jg, js, jkp, jkill, jsp, jcs, jfw, jov, Value.category, Option.toList_some, Option.toList_none, List.nil_append, List.cons_append, List.append_nil, Nat.reduceAdd, true_and, and_true, jb0, jb01, jb1, jem, true_or, or_true, Classical.not_not, forall_const, List.length_cons, List.length_nil, Nat.reduceLeDiff, Nat.zero_le, Nat.reduceLT, o_slen, o_sld, o_ishr, and_self, not_true_eq_false, not_false_eq_true, false_imp_iff, true_imp_iff, implies_true, and_false, false_and, or_false, false_or, c]
    exact hT
  · rw [if_neg c] at hT
    have hin : vp_in k LL := by
      rw [vp_in_iff]
      rw [Int32.le_iff_toInt_le, eL] at c
      omega
    simp only [sg_L_cell_0, sg_L_cell_12, sg_L_cell_19, cd_L_cell, jwp, o_ic, o_lc, o_iload, o_lload, o_aload, o_istore, o_lstore, o_astore, o_iinc, o_pop, o_dup, o_dup2, o_iadd, o_isub, o_imul, o_iand, o_ior, o_ishl, o_ladd, o_lmul, o_land, o_lor, o_idiv, o_irem, o_ineg, o_i2l, o_l2i, o_i2b, o_i2s, o_lushr, o_lshr, o_lshl, o_lcmp, o_ifeq, o_ifne, o_iflt, o_ifge, o_ifgt, o_ifle, o_iceq, o_icne, o_iclt, o_icge, o_icgt, o_icle, o_goto, o_tsw, jsw, o_lsw, jlk, o_getf, o_putf, o_putz, o_iald, o_zald, o_iast, o_zast, o_aald, o_alen, o_gets, o_zld, o_zlen, o_cpy, o_call, o_callV, o_ireti, o_iretz, o_lret, o_vret, jg, js, jkp, jkill, jsp, jcs, jfw, jov, Value.category, Option.toList_some, Option.toList_none, List.nil_append, List.cons_append, List.append_nil, Nat.reduceAdd, true_and, and_true, jb0, jb01, jb1, jem, true_or, or_true, Classical.not_not, forall_const, List.length_cons, List.length_nil, Nat.reduceLeDiff, Nat.zero_le, Nat.reduceLT, o_slen, o_sld, o_ishr, and_self, not_true_eq_false, not_false_eq_true, false_imp_iff, true_imp_iff, implies_true, and_false, false_and, or_false, false_or, c]
    exact ⟨hin, hT⟩
theorem m_L_cell (l : Launch) {LL : Nat} {xs : Nat → Int32} (hL : LL ≤ 260) : jHoldsS LL xs vwCl l yL_cell wsL_cell 0 0 0 0 (T_L_cell LL xs) := by
  refine jMetS (cc := cL_cell) (maxL := 2) (rt := (some .int)) (by decide +kernel) rfl (fun Γ Q vs K h hl hn hcl C hS hR hT => ?_)
  unfold T_L_cell at hT
  split at hT
  · obtain ⟨rfl, hk, hT⟩ := hT
    exact ⟨Nat.le_of_ble_eq_true rfl, v_L_cell ⟨hn, hcl, C, hR, hL, hS⟩ hk hT⟩
  · exact hT.elim
