/-- after one call of both, the place is 7 further on -/
theorem law_next {Γ : jΓ} {b LL : Nat} {xs : Nat → Int32} (E : E_L Γ b LL xs) {K : List jK} {h : jM} {k : Nat} {ce sl : Nat} (hn : jG Γ 18 [some (.ref 2000), some (.ref 0), some (.ref 37), some (.int (nI (7 * (k + 1))))] [] K h ce sl) : jG Γ 949 [some (.ref 2000), some (.ref 0), some (.ref 37), some (.int (nI (7 * k)))] [] K h ce sl := by
  refine H_L_949 E 60 _ _ _ _ _ _ ?_
  simp only [sg_L_949, cd_L, jwp, o_ic, o_lc, o_iload, o_lload, o_aload, o_istore, o_lstore, o_astore, o_iinc, o_pop, o_dup, o_dup2, o_iadd, o_isub, o_imul, o_iand, o_ior, o_ishl, o_ladd, o_lmul, o_land, o_lor, o_idiv, o_irem, o_ineg, o_i2l, o_l2i, o_i2b, o_i2s, o_lushr, o_lshr, o_lshl, o_lcmp, o_ifeq, o_ifne, o_iflt, o_ifge, o_ifgt, o_ifle, o_iceq, o_icne, o_iclt, o_icge, o_icgt, o_icle, o_goto, o_tsw, jsw, o_lsw, jlk, o_getf, o_putf, o_putz, o_iald, o_zald, o_iast, o_zast, o_aald, o_alen, o_gets, o_zld, o_zlen, o_cpy, o_call, o_callV, o_ireti, o_iretz, o_lret, o_vret, jg, js, jkp, jkill, jsp, jcs, jfw, jov, Value.category, Option.toList_some, Option.toList_none, List.nil_append, List.cons_append, List.append_nil, Nat.reduceAdd, true_and, and_true, jb0, jb01, jb1, jem, true_or, or_true, Classical.not_not, forall_const, List.length_cons, List.length_nil, Nat.reduceLeDiff, Nat.zero_le, Nat.reduceLT, and_self, not_true_eq_false, not_false_eq_true, false_imp_iff, true_imp_iff, implies_true, and_false, false_and, or_false, false_or]
  rw [show (7 : Int32) = nI 7 from rfl, nI_add, show 7 * k + 7 = 7 * (k + 1) by omega]
  exact hn
theorem nI_7 {LL : Nat} (h : LL ≤ 3584) {a : Nat} (ha : a ≤ 4000) : nI LL - 7 < nI a ↔ LL < a + 7 := by
  have e1 : (nI LL).toInt = (LL : Int) := nI_toInt (by omega)
  have e2 : (nI a).toInt = (a : Int) := nI_toInt (by omega)
  have e3 : (nI LL - 7).toInt = (LL : Int) - 7 := by
    rw [Int32.toInt_sub, e1]
    show ((LL : Int) - 7).bmod (2 ^ 32) = _
    rw [Int.bmod_eq_of_le] <;> omega
  rw [Int32.lt_iff_toInt_lt, e2, e3]
  omega
theorem law_case {Γ : jΓ} {b LL : Nat} {xs : Nat → Int32} (E : E_L Γ b LL xs) (hL : LL ≤ 3584) {k : Nat} {h : jM} {K : List jK} (c : CP k h) (hM : jXM K) (hk : 7 * k + 7 ≤ LL) {ce sl : Nat} (hn : ∀ g, CP (k + 1) g → jG Γ 949 [some (.ref 2000), some (.ref 0), some (.ref 37), some (.int (nI (7 * k)))] [] K g ce sl) (x : Int) : ((x < 0 ∨ 0 + ((24 : Nat) : Int) ≤ x) → jG Γ 949 [some (.ref 2000), some (.ref 0), some (.ref 37), some (.int (nI (7 * k)))] [] K h ce sl) ∧ jsw (fun t => jG Γ t [some (.ref 2000), some (.ref 0), some (.ref 37), some (.int (nI (7 * k)))] [] K h ce sl) x 0 [144, 177, 240, 263, 316, 329, 372, 405, 438, 461, 474, 507, 540, 563, 586, 600, 613, 636, 649, 692, 735, 758, 811, 886] := by
  have b1 : vp_in (nI (7 * k) + 1) LL := by rw [show (1 : Int32) = nI 1 from rfl, nI_add]; exact vp_in_nI (by omega) (by omega)
  have b2 : vp_in (nI (7 * k) + 2) LL := by rw [show (2 : Int32) = nI 2 from rfl, nI_add]; exact vp_in_nI (by omega) (by omega)
  have b3 : vp_in (nI (7 * k) + 3) LL := by rw [show (3 : Int32) = nI 3 from rfl, nI_add]; exact vp_in_nI (by omega) (by omega)
  have b4 : vp_in (nI (7 * k) + 4) LL := by rw [show (4 : Int32) = nI 4 from rfl, nI_add]; exact vp_in_nI (by omega) (by omega)
  have b5 : vp_in (nI (7 * k) + 5) LL := by rw [show (5 : Int32) = nI 5 from rfl, nI_add]; exact vp_in_nI (by omega) (by omega)
  have b6 : vp_in (nI (7 * k) + 6) LL := by rw [show (6 : Int32) = nI 6 from rfl, nI_add]; exact vp_in_nI (by omega) (by omega)
  refine ⟨fun _ => hn h (CP_mono c), fun _ => lc_floor E c hM b1 b2 hn, fun _ => lc_type E c hM b1 b2 b3 hn, fun _ => lc_rule E c hM b1 hn, fun _ => lc_ant E c hM b1 b2 b3 b4 hn, fun _ => lc_less E c hM hn, fun _ => lc_paint E c hM b1 b2 b3 hn, fun _ => lc_colour E c hM b1 b2 hn, fun _ => lc_told E c hM b1 b2 hn, fun _ => lc_run E (by omega) c hM b1 hn, fun _ => lc_time E c hM hn, fun _ => lc_meeting E c hM b1 b2 hn, fun _ => lc_visits E c hM b1 b2 hn, fun _ => lc_count E c hM b1 hn, fun _ => lc_bounds E c hM b1 hn, fun _ => lc_digest E c hM hn, fun _ => lc_mark E c hM hn, fun _ => lc_road E c hM b1 hn, fun _ => lc_differ E c hM hn, fun _ => lc_like E c hM b1 b2 b3 hn, fun _ => lc_sheet E c hM b1 b2 b3 hn, fun _ => lc_drop E c hM b1 hn, fun _ => lc_item E c hM b1 b2 b3 b4 hn, fun _ => lc_lay E c hM b1 b2 b3 b4 b5 b6 hn, fun _ => lc_copy E c hM b1 b2 b3 b4 b5 hn, trivial⟩
theorem law_loop {Γ : jΓ} {b LL : Nat} {xs : Nat → Int32} (E : E_L Γ b LL xs) (hL : LL ≤ 3584) {K : List jK} (hM : jXM K) {ce sl : Nat} (hend : ∀ i h, jG Γ 955 [some (.ref 2000), some (.ref 0), some (.ref 37), some (.int i)] [] K h ce sl) : ∀ (n k : Nat) (h : jM), CP k h → 7 * k ≤ LL → LL < 7 * k + 7 * n + 7 → jG Γ 18 [some (.ref 2000), some (.ref 0), some (.ref 37), some (.int (nI (7 * k)))] [] K h ce sl := by
  intro n
  induction n with
  | zero =>
    intro k h c h1 h2
    refine H_L_18 E 60 _ _ _ _ _ _ ?_
    have hgt : nI LL - 7 < nI (7 * k) := (nI_7 hL (by omega)).mpr (by omega)
    simp only [sg_L_18, cd_L, o_slen, o_sld, jwp, o_ic, o_lc, o_iload, o_lload, o_aload, o_istore, o_lstore, o_astore, o_iinc, o_pop, o_dup, o_dup2, o_iadd, o_isub, o_imul, o_iand, o_ior, o_ishl, o_ladd, o_lmul, o_land, o_lor, o_idiv, o_irem, o_ineg, o_i2l, o_l2i, o_i2b, o_i2s, o_lushr, o_lshr, o_lshl, o_lcmp, o_ifeq, o_ifne, o_iflt, o_ifge, o_ifgt, o_ifle, o_iceq, o_icne, o_iclt, o_icge, o_icgt, o_icle, o_goto, o_tsw, jsw, o_lsw, jlk, o_getf, o_putf, o_putz, o_iald, o_zald, o_iast, o_zast, o_aald, o_alen, o_gets, o_zld, o_zlen, o_cpy, o_call, o_callV, o_ireti, o_iretz, o_lret, o_vret, jg, js, jkp, jkill, jsp, jcs, jfw, jov, Value.category, Option.toList_some, Option.toList_none, List.nil_append, List.cons_append, List.append_nil, Nat.reduceAdd, true_and, and_true, jb0, jb01, jb1, jem, true_or, or_true, Classical.not_not, forall_const, List.length_cons, List.length_nil, Nat.reduceLeDiff, Nat.zero_le, Nat.reduceLT, and_self, not_true_eq_false, not_false_eq_true, false_imp_iff, true_imp_iff, implies_true, and_false, false_and, or_false, false_or, hgt]
    exact hend _ _
  | succ n ih =>
    intro k h c h1 h2
    refine H_L_18 E 60 _ _ _ _ _ _ ?_
    by_cases hk : 7 * k + 7 ≤ LL
    · have hgt : ¬ nI LL - 7 < nI (7 * k) := fun z => absurd ((nI_7 hL (by omega)).mp z) (by omega)
      have hin : vp_in (nI (7 * k)) LL := vp_in_nI (by omega) (by omega)
      have hc := law_case E hL c hM hk (fun g cg => law_next E (ih (k + 1) g cg (by omega) (by omega))) ((xs (nI (7 * k)).toNatClampNeg) &&& 31).toInt (ce := ce) (sl := sl)
      simp only [sg_L_18, cd_L, o_slen, o_sld, jwp, o_ic, o_lc, o_iload, o_lload, o_aload, o_istore, o_lstore, o_astore, o_iinc, o_pop, o_dup, o_dup2, o_iadd, o_isub, o_imul, o_iand, o_ior, o_ishl, o_ladd, o_lmul, o_land, o_lor, o_idiv, o_irem, o_ineg, o_i2l, o_l2i, o_i2b, o_i2s, o_lushr, o_lshr, o_lshl, o_lcmp, o_ifeq, o_ifne, o_iflt, o_ifge, o_ifgt, o_ifle, o_iceq, o_icne, o_iclt, o_icge, o_icgt, o_icle, o_goto, o_tsw, o_lsw, jlk, o_getf, o_putf, o_putz, o_iald, o_zald, o_iast, o_zast, o_aald, o_alen, o_gets, o_zld, o_zlen, o_cpy, o_call, o_callV, o_ireti, o_iretz, o_lret, o_vret, jg, js, jkp, jkill, jsp, jcs, jfw, jov, Value.category, Option.toList_some, Option.toList_none, List.nil_append, List.cons_append, List.append_nil, Nat.reduceAdd, true_and, and_true, jb0, jb01, jb1, jem, true_or, or_true, Classical.not_not, forall_const, List.length_cons, List.length_nil, Nat.reduceLeDiff, Nat.zero_le, Nat.reduceLT, and_self, not_true_eq_false, not_false_eq_true, false_imp_iff, true_imp_iff, implies_true, and_false, false_and, or_false, false_or, hgt, hin]
      exact hc
    · have hgt : nI LL - 7 < nI (7 * k) := (nI_7 hL (by omega)).mpr (by omega)
      simp only [sg_L_18, cd_L, o_slen, o_sld, jwp, o_ic, o_lc, o_iload, o_lload, o_aload, o_istore, o_lstore, o_astore, o_iinc, o_pop, o_dup, o_dup2, o_iadd, o_isub, o_imul, o_iand, o_ior, o_ishl, o_ladd, o_lmul, o_land, o_lor, o_idiv, o_irem, o_ineg, o_i2l, o_l2i, o_i2b, o_i2s, o_lushr, o_lshr, o_lshl, o_lcmp, o_ifeq, o_ifne, o_iflt, o_ifge, o_ifgt, o_ifle, o_iceq, o_icne, o_iclt, o_icge, o_icgt, o_icle, o_goto, o_tsw, jsw, o_lsw, jlk, o_getf, o_putf, o_putz, o_iald, o_zald, o_iast, o_zast, o_aald, o_alen, o_gets, o_zld, o_zlen, o_cpy, o_call, o_callV, o_ireti, o_iretz, o_lret, o_vret, jg, js, jkp, jkill, jsp, jcs, jfw, jov, Value.category, Option.toList_some, Option.toList_none, List.nil_append, List.cons_append, List.append_nil, Nat.reduceAdd, true_and, and_true, jb0, jb01, jb1, jem, true_or, or_true, Classical.not_not, forall_const, List.length_cons, List.length_nil, Nat.reduceLeDiff, Nat.zero_le, Nat.reduceLT, and_self, not_true_eq_false, not_false_eq_true, false_imp_iff, true_imp_iff, implies_true, and_false, false_and, or_false, false_or, hgt]
      exact hend _ _

theorem fx_6 : jf_X6.length = 9 := rfl
theorem fx_7 : jf_X7.length = 33 := rfl
theorem fx_K0 : ([.inl (6, jf_X6)] : List jK) = KB_0 := rfl
theorem fx_KX : KB_64 ++ [.inl (7, jf_X7)] = KB_65 := rfl
theorem law_end {Γ : jΓ} {b LL : Nat} {xs : Nat → Int32} (E : E_L Γ b LL xs) (h956 : ∀ L K h ce sl, jG Γ 956 L [.int 1] K h ce sl) (L : jL) (K : List jK) (h : jM) (ce sl : Nat) : jG Γ 955 L [] K h ce sl := by
  refine H_L_955 E 60 _ _ _ _ _ _ ?_
  simp only [sg_L_955, cd_L, jwp, o_ic, o_lc, o_iload, o_lload, o_aload, o_istore, o_lstore, o_astore, o_iinc, o_pop, o_dup, o_dup2, o_iadd, o_isub, o_imul, o_iand, o_ior, o_ishl, o_ladd, o_lmul, o_land, o_lor, o_idiv, o_irem, o_ineg, o_i2l, o_l2i, o_i2b, o_i2s, o_lushr, o_lshr, o_lshl, o_lcmp, o_ifeq, o_ifne, o_iflt, o_ifge, o_ifgt, o_ifle, o_iceq, o_icne, o_iclt, o_icge, o_icgt, o_icle, o_goto, o_tsw, jsw, o_lsw, jlk, o_getf, o_putf, o_putz, o_iald, o_zald, o_iast, o_zast, o_aald, o_alen, o_gets, o_zld, o_zlen, o_cpy, o_call, o_callV, o_ireti, o_iretz, o_lret, o_vret, jg, js, jkp, jkill, jsp, jcs, jfw, jov, Value.category, Option.toList_some, Option.toList_none, List.nil_append, List.cons_append, List.append_nil, Nat.reduceAdd, true_and, and_true, jb0, jb01, jb1, jem, true_or, or_true, Classical.not_not, forall_const, List.length_cons, List.length_nil, Nat.reduceLeDiff, Nat.zero_le, Nat.reduceLT, and_self, not_true_eq_false, not_false_eq_true, false_imp_iff, true_imp_iff, implies_true, and_false, false_and, or_false, false_or]
  exact h956 _ _ _ _ _
set_option maxRecDepth 100000 in
theorem law_start {Γ : jΓ} {b LL : Nat} {xs : Nat → Int32} (E : E_L Γ b LL xs) (hL : LL ≤ 3584) (h956 : ∀ L K h ce sl, jG Γ 956 L [.int 1] K h ce sl) : jG Γ 0 [some (.ref 2000), none, none, none] [] [] zM 0 0 := by
  have s3 := law_loop E hL (K := KB_103) kb_M (ce := 57) (sl := 462099) (fun i h => law_end E h956 _ _ _ _ _) LL 0 hM0 CP_start (by omega) (by omega)
  generalize hX : jrst (mNewX (upr zM 0 (fun _ => 0))) (2 : Int32).toInt.toNat (jdirs (mNewX (upr zM 0 (fun _ => 0)))) 4 0 = m1
  have hs := start_mem
  rw [hX] at hs
  have s2 : jG Γ 8 [some (.ref 2000), some (.ref 0), none, none] [] KB_64 m1 37 231028 := by
    refine H_L_8 E 60 _ _ _ _ _ _ ?_
    simp only [sg_L_8, cd_L, jwp, o_ic, o_lc, o_iload, o_lload, o_aload, o_istore, o_lstore, o_astore, o_iinc, o_pop, o_dup, o_dup2, o_iadd, o_isub, o_imul, o_iand, o_ior, o_ishl, o_ladd, o_lmul, o_land, o_lor, o_idiv, o_irem, o_ineg, o_i2l, o_l2i, o_i2b, o_i2s, o_lushr, o_lshr, o_lshl, o_lcmp, o_ifeq, o_ifne, o_iflt, o_ifge, o_ifgt, o_ifle, o_iceq, o_icne, o_iclt, o_icge, o_icgt, o_icle, o_goto, o_tsw, jsw, o_lsw, jlk, o_getf, o_putf, o_putz, o_iald, o_zald, o_iast, o_zast, o_aald, o_alen, o_gets, o_zld, o_zlen, o_cpy, o_call, o_callV, o_ireti, o_iretz, o_lret, o_vret, jg, js, jkp, jkill, jsp, jcs, jfw, jov, Value.category, Option.toList_some, Option.toList_none, List.nil_append, List.cons_append, List.append_nil, Nat.reduceAdd, true_and, and_true, jb0, jb01, jb1, jem, true_or, or_true, Classical.not_not, forall_const, List.length_cons, List.length_nil, Nat.reduceLeDiff, Nat.zero_le, Nat.reduceLT, and_self, not_true_eq_false, not_false_eq_true, false_imp_iff, true_imp_iff, implies_true, and_false, false_and, or_false, false_or, o_new, o_callA, jok, jloL, jlo, List.all_cons, List.all_nil, decide_true, decide_false, Bool.true_or, Bool.or_true, Bool.and_true, Bool.true_and, Bool.and_self, Bool.or_false, Bool.false_or, eq_self, Nat.reduceSub, Nat.reduceEqDiff, List.length_nil, kl_64, kk_64, fx_7, fx_KX, kl_65]
    show _ ∧ (_ ∧ _)
    refine ⟨rfl, rfl, rfl, ?_⟩
    rw [hs]
    exact s3
  refine H_L_0 E 60 _ _ _ _ _ _ ?_
  simp only [sg_L_0, cd_L, jwp, o_ic, o_lc, o_iload, o_lload, o_aload, o_istore, o_lstore, o_astore, o_iinc, o_pop, o_dup, o_dup2, o_iadd, o_isub, o_imul, o_iand, o_ior, o_ishl, o_ladd, o_lmul, o_land, o_lor, o_idiv, o_irem, o_ineg, o_i2l, o_l2i, o_i2b, o_i2s, o_lushr, o_lshr, o_lshl, o_lcmp, o_ifeq, o_ifne, o_iflt, o_ifge, o_ifgt, o_ifle, o_iceq, o_icne, o_iclt, o_icge, o_icgt, o_icle, o_goto, o_tsw, jsw, o_lsw, jlk, o_getf, o_putf, o_putz, o_iald, o_zald, o_iast, o_zast, o_aald, o_alen, o_gets, o_zld, o_zlen, o_cpy, o_call, o_callV, o_ireti, o_iretz, o_lret, o_vret, jg, js, jkp, jkill, jsp, jcs, jfw, jov, Value.category, Option.toList_some, Option.toList_none, List.nil_append, List.cons_append, List.append_nil, Nat.reduceAdd, true_and, and_true, jb0, jb01, jb1, jem, true_or, or_true, Classical.not_not, forall_const, List.length_cons, List.length_nil, Nat.reduceLeDiff, Nat.zero_le, Nat.reduceLT, and_self, not_true_eq_false, not_false_eq_true, false_imp_iff, true_imp_iff, implies_true, and_false, false_and, or_false, false_or, o_new, o_callA, jok, jloL, jlo, List.all_cons, List.all_nil, decide_true, decide_false, Bool.true_or, Bool.or_true, Bool.and_true, Bool.true_and, Bool.and_self, Bool.or_false, Bool.false_or, eq_self, Nat.reduceSub, Nat.reduceEqDiff, List.length_nil, fx_6, fx_K0]
  refine ⟨rfl, ?_⟩
  show _ ∧ (_ ∧ _)
  refine ⟨rfl, rfl, rfl, ?_⟩
  rw [hX]
  exact s2

