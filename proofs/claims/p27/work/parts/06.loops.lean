/-! ===== loops of the class's parts ===== -/
noncomputable def jcnt (p : Nat → Prop) : Nat → Nat
  | 0 => 0
  | n + 1 => jcnt p n + @ite Nat (p n) (Classical.propDecidable _) 1 0
theorem jcnt_le (p : Nat → Prop) : ∀ n, jcnt p n ≤ n
  | 0 => Nat.le_refl _
  | n + 1 => by
    have := jcnt_le p n
    unfold jcnt
    by_cases h : p n
    · rw [if_pos h]; omega
    · rw [if_neg h]; omega
theorem jcnt_pos {p : Nat → Prop} {n : Nat} (h : p n) : jcnt p (n + 1) = jcnt p n + 1 := by
  show _ + _ = _; rw [if_pos h]
theorem jcnt_neg {p : Nat → Prop} {n : Nat} (h : ¬ p n) : jcnt p (n + 1) = jcnt p n := by
  show _ + _ = _; rw [if_neg h]; rfl
theorem e57600 : (57600 : Int32) = nI 57600 := rfl
theorem e57599 : (57599 : Int32) = nI 57599 := rfl
theorem e240 : (240 : Int32) = nI 240 := rfl
theorem e239 : (239 : Int32) = nI 239 := rfl
theorem e4 : (4 : Int32) = nI 4 := rfl
theorem e2 : (2 : Int32) = nI 2 := rfl
theorem nI_m1 (i : Nat) : nI (i + 1) + -1 = nI i := by
  rw [nI_succ, Int32.add_assoc]
  rw [show (1 : Int32) + -1 = 0 from rfl, Int32.add_zero]
theorem nI_neg1 : nI 0 + -1 = -1 := rfl

theorem onF_int {x y : Int32} (h : onF x y) : (-120 ≤ x.toInt ∧ x.toInt ≤ 119) ∧ (-120 ≤ y.toInt ∧ y.toInt ≤ 119) := by
  obtain ⟨⟨h1, h2⟩, h3, h4⟩ := h
  rw [Int32.le_iff_toInt_le] at h1 h2 h3 h4
  exact ⟨⟨h1, h2⟩, h3, h4⟩
theorem onF_of {x y : Int32} (h : (-120 ≤ x.toInt ∧ x.toInt ≤ 119) ∧ (-120 ≤ y.toInt ∧ y.toInt ≤ 119)) : onF x y := by
  obtain ⟨⟨h1, h2⟩, h3, h4⟩ := h
  refine ⟨⟨?_, ?_⟩, ?_, ?_⟩ <;> rw [Int32.le_iff_toInt_le]
  · exact h1
  · exact h2
  · exact h3
  · exact h4
theorem ti_add {x y : Int32} (h1 : -2147483648 ≤ x.toInt + y.toInt) (h2 : x.toInt + y.toInt < 2147483648) : (x + y).toInt = x.toInt + y.toInt := by
  rw [Int32.toInt_add, Int.bmod_eq_of_le (by omega) (by omega)]
theorem ti_sub {x y : Int32} (h1 : -2147483648 ≤ x.toInt - y.toInt) (h2 : x.toInt - y.toInt < 2147483648) : (x - y).toInt = x.toInt - y.toInt := by
  rw [Int32.toInt_sub, Int.bmod_eq_of_le (by omega) (by omega)]
theorem ti_mul {x y : Int32} (h1 : -2147483648 ≤ x.toInt * y.toInt) (h2 : x.toInt * y.toInt < 2147483648) : (x * y).toInt = x.toInt * y.toInt := by
  rw [Int32.toInt_mul, Int.bmod_eq_of_le (by omega) (by omega)]
theorem jpl_off {x y : Int32} (h : ¬ onF x y) : jpl x y = -1 := if_neg h
theorem jpl_int {x y : Int32} (h : onF x y) : (jpl x y).toInt = (y.toInt + 120) * 240 + (x.toInt + 120) := by
  obtain ⟨⟨h1, h2⟩, h3, h4⟩ := onF_int h
  have e : jpl x y = (y - -120) * 240 + (x - -120) := if_pos h
  rw [e]
  have m1 : (-120 : Int32).toInt = -120 := rfl
  have m2 : (240 : Int32).toInt = 240 := rfl
  have a1 : (y - -120).toInt = y.toInt + 120 := by rw [ti_sub (by omega) (by omega)]; omega
  have a2 : (x - -120).toInt = x.toInt + 120 := by rw [ti_sub (by omega) (by omega)]; omega
  have a3 : ((y - -120) * 240).toInt = (y.toInt + 120) * 240 := by rw [ti_mul (by rw [a1, m2]; omega) (by rw [a1, m2]; omega), a1, m2]
  rw [ti_add (by rw [a3, a2]; omega) (by rw [a3, a2]; omega), a3, a2]
theorem jpl_in {x y : Int32} (h : onF x y) : vp_in (jpl x y) 57600 := by
  obtain ⟨⟨h1, h2⟩, h3, h4⟩ := onF_int h
  rw [vp_in_iff, jpl_int h]
  omega
/-- the colour of a cell in a row; 0 beyond the floor -/
noncomputable def jcol (f : Nat → Int32) (x y : Int32) : Int32 := @ite Int32 (onF x y) (Classical.propDecidable _) (f (jpl x y).toNatClampNeg) 0

/-! X6_howMany -/
def T_X6_howMany : jT := fun vs K h Q => match vs with
  | [.ref a, .int v] => (match jln K a 0 with | some N => N < 2147483648 ∧ Q (some (.int (nI (jcnt (fun k => h a k = v) N)))) K h | none => False)
  | _ => False
def sg_X6_howMany_0 : jS := [(o_ic (0), 1), (o_istore 2, 1), (o_ic (0), 1), (o_istore 3, 1)]
def sg_X6_howMany_4 : jS := [(o_iload 3, 1), (o_aload 0, 1), (o_alen 0, 1), (o_icge 26, 3), (o_aload 0, 1), (o_iload 3, 1), (o_iald, 1), (o_iload 1, 1), (o_icne 20, 3), (o_iinc 2 (1), 3), (o_iinc 3 (1), 3), (o_goto 4, 3)]
def sg_X6_howMany_20 : jS := [(o_iinc 3 (1), 3), (o_goto 4, 3)]
def sg_X6_howMany_26 : jS := [(o_iload 2, 1), (o_ireti, 1)]
def cd_X6_howMany : Nat → jS := fun t => match t with
  | 20 => sg_X6_howMany_20
  | 26 => sg_X6_howMany_26
  | _ => []
def E_X6_howMany (Γ : jΓ) (Q : jPost) : Prop := Γ.2.2.2.2.2.2.2.2.2.2.1 = 4 ∧ Γ.2.2.2.2.2.2.2.2.2.2.2.1 = vwCl ∧ jC Γ cX6_howMany RX6 "howMany" (some .int) wsX6_howMany 0 0 0 0 ∧ jR Γ Q 0 0
theorem oo_X6_howMany_0 {Γ : jΓ} {Q : jPost} (E : E_X6_howMany Γ Q) : jSA Γ Q 0 (o_ic (0)) 1 := so_iconst E.2.2.1 rfl dX6_howMany_0
theorem oo_X6_howMany_1 {Γ : jΓ} {Q : jPost} (E : E_X6_howMany Γ Q) : jSA Γ Q 1 (o_istore 2) 1 := so_istore_n E.2.2.1 rfl (by rw [E.1]; decide) dX6_howMany_1
theorem oo_X6_howMany_2 {Γ : jΓ} {Q : jPost} (E : E_X6_howMany Γ Q) : jSA Γ Q 2 (o_ic (0)) 1 := so_iconst E.2.2.1 rfl dX6_howMany_2
theorem oo_X6_howMany_3 {Γ : jΓ} {Q : jPost} (E : E_X6_howMany Γ Q) : jSA Γ Q 3 (o_istore 3) 1 := so_istore_n E.2.2.1 rfl (by rw [E.1]; decide) dX6_howMany_3
theorem oo_X6_howMany_4 {Γ : jΓ} {Q : jPost} (E : E_X6_howMany Γ Q) : jSA Γ Q 4 (o_iload 3) 1 := so_iload_n E.2.2.1 rfl dX6_howMany_4
theorem oo_X6_howMany_5 {Γ : jΓ} {Q : jPost} (E : E_X6_howMany Γ Q) : jSA Γ Q 5 (o_aload 0) 1 := so_aload_n E.2.2.1 rfl dX6_howMany_5
theorem oo_X6_howMany_6 {Γ : jΓ} {Q : jPost} (E : E_X6_howMany Γ Q) : jSA Γ Q 6 (o_alen 0) 1 := so_alen0 E.2.2.1 dX6_howMany_6
theorem oo_X6_howMany_7 {Γ : jΓ} {Q : jPost} (E : E_X6_howMany Γ Q) : jSA Γ Q 7 (o_icge 26) 3 := so_icge E.2.2.1 (by decide) dX6_howMany_7
theorem oo_X6_howMany_10 {Γ : jΓ} {Q : jPost} (E : E_X6_howMany Γ Q) : jSA Γ Q 10 (o_aload 0) 1 := so_aload_n E.2.2.1 rfl dX6_howMany_10
theorem oo_X6_howMany_11 {Γ : jΓ} {Q : jPost} (E : E_X6_howMany Γ Q) : jSA Γ Q 11 (o_iload 3) 1 := so_iload_n E.2.2.1 rfl dX6_howMany_11
theorem oo_X6_howMany_12 {Γ : jΓ} {Q : jPost} (E : E_X6_howMany Γ Q) : jSA Γ Q 12 (o_iald) 1 := so_iald E.2.2.1 dX6_howMany_12
theorem oo_X6_howMany_13 {Γ : jΓ} {Q : jPost} (E : E_X6_howMany Γ Q) : jSA Γ Q 13 (o_iload 1) 1 := so_iload_n E.2.2.1 rfl dX6_howMany_13
theorem oo_X6_howMany_14 {Γ : jΓ} {Q : jPost} (E : E_X6_howMany Γ Q) : jSA Γ Q 14 (o_icne 20) 3 := so_icne E.2.2.1 (by decide) dX6_howMany_14
theorem oo_X6_howMany_17 {Γ : jΓ} {Q : jPost} (E : E_X6_howMany Γ Q) : jSA Γ Q 17 (o_iinc 2 (1)) 3 := so_iinc E.2.2.1 rfl (by rw [E.1]; decide) dX6_howMany_17
theorem oo_X6_howMany_20 {Γ : jΓ} {Q : jPost} (E : E_X6_howMany Γ Q) : jSA Γ Q 20 (o_iinc 3 (1)) 3 := so_iinc E.2.2.1 rfl (by rw [E.1]; decide) dX6_howMany_20
theorem oo_X6_howMany_23 {Γ : jΓ} {Q : jPost} (E : E_X6_howMany Γ Q) : jSA Γ Q 23 (o_goto 4) 3 := so_goto E.2.2.1 (by decide) dX6_howMany_23
theorem oo_X6_howMany_26 {Γ : jΓ} {Q : jPost} (E : E_X6_howMany Γ Q) : jSA Γ Q 26 (o_iload 2) 1 := so_iload_n E.2.2.1 rfl dX6_howMany_26
theorem oo_X6_howMany_27 {Γ : jΓ} {Q : jPost} (E : E_X6_howMany Γ Q) : jSA Γ Q 27 (o_ireti) 1 := so_ireti E.2.2.1 E.2.2.2 dX6_howMany_27
theorem ok_X6_howMany_0 {Γ : jΓ} {Q : jPost} (E : E_X6_howMany Γ Q) : jSS Γ Q 0 sg_X6_howMany_0 := ⟨oo_X6_howMany_0 E, oo_X6_howMany_1 E, oo_X6_howMany_2 E, oo_X6_howMany_3 E, trivial⟩
theorem ok_X6_howMany_4 {Γ : jΓ} {Q : jPost} (E : E_X6_howMany Γ Q) : jSS Γ Q 4 sg_X6_howMany_4 := ⟨oo_X6_howMany_4 E, oo_X6_howMany_5 E, oo_X6_howMany_6 E, oo_X6_howMany_7 E, oo_X6_howMany_10 E, oo_X6_howMany_11 E, oo_X6_howMany_12 E, oo_X6_howMany_13 E, oo_X6_howMany_14 E, oo_X6_howMany_17 E, oo_X6_howMany_20 E, oo_X6_howMany_23 E, trivial⟩
theorem ok_X6_howMany_20 {Γ : jΓ} {Q : jPost} (E : E_X6_howMany Γ Q) : jSS Γ Q 20 sg_X6_howMany_20 := ⟨oo_X6_howMany_20 E, oo_X6_howMany_23 E, trivial⟩
theorem ok_X6_howMany_26 {Γ : jΓ} {Q : jPost} (E : E_X6_howMany Γ Q) : jSS Γ Q 26 sg_X6_howMany_26 := ⟨oo_X6_howMany_26 E, oo_X6_howMany_27 E, trivial⟩
theorem okc_X6_howMany {Γ : jΓ} {Q : jPost} (E : E_X6_howMany Γ Q) (t : Nat) : jSS Γ Q t (cd_X6_howMany t) := by
  unfold cd_X6_howMany
  split
  · exact ok_X6_howMany_20 E
  · exact ok_X6_howMany_26 E
  · trivial
theorem m_X6_howMany_of (l : Launch) (hv : ∀ (G : jGt) (Q : jPost) (vs : List Value) (K : List jK) (h : jM), jHd cd_X6_howMany G Q sg_X6_howMany_0 0 → jHd cd_X6_howMany G Q sg_X6_howMany_4 4 → T_X6_howMany vs K h Q → (lg_sl vs).length ≤ 4 ∧ G 0 (jinit vs 4) [] K h 0 0) : jHolds vwCl l yX6_howMany wsX6_howMany 0 0 0 0 T_X6_howMany := by
  refine jMet (cc := cX6_howMany) (maxL := 4) (rt := (some .int)) (by decide +kernel) rfl (fun Γ Q vs K h hl hn hcl C hR hT => hv (jG Γ) Q vs K h ?_ ?_ hT)
  · exact fun n L st K h ce sl => jwp_ok (okc_X6_howMany ⟨hn, hcl, C, hR⟩) n sg_X6_howMany_0 0 (ok_X6_howMany_0 ⟨hn, hcl, C, hR⟩) L st K h ce sl
  · exact fun n L st K h ce sl => jwp_ok (okc_X6_howMany ⟨hn, hcl, C, hR⟩) n sg_X6_howMany_4 4 (ok_X6_howMany_4 ⟨hn, hcl, C, hR⟩) L st K h ce sl
set_option maxHeartbeats 4000000 in
set_option maxRecDepth 100000 in
theorem v_X6_howMany {G : jGt} {Q : jPost} {K : List jK} {h : jM} {a : Nat} {v : Int32} (hT : match jln K a 0 with | some N => N < 2147483648 ∧ Q (some (.int (nI (jcnt (fun k => h a k = v) N)))) K h | none => False) (H0 : jHd cd_X6_howMany G Q sg_X6_howMany_0 0) (H4 : jHd cd_X6_howMany G Q sg_X6_howMany_4 4) : G 0 [some (.ref a), some (.int v), none, none] [] K h 0 0 := by
  cases hN : jln K a 0 with
  | none => rw [hN] at hT; exact hT.elim
  | some N =>
    rw [hN] at hT
    obtain ⟨hlt, hT⟩ := hT
    have loop : ∀ n i, i + n = N → G 4 [some (.ref a), some (.int v), some (.int (nI (jcnt (fun k => h a k = v) i))), some (.int (nI i))] [] K h 0 0 := by
      intro n
      induction n with
      | zero =>
        intro i hi
        have : i = N := by omega
        subst this
        refine H4 30 _ _ _ _ _ _ ?_
        simp only [sg_X6_howMany_0, sg_X6_howMany_4, sg_X6_howMany_20, sg_X6_howMany_26, cd_X6_howMany, jwp, o_ic, o_lc, o_iload, o_lload, o_aload, o_istore, o_lstore, o_astore, o_iinc, o_pop, o_dup, o_dup2, o_iadd, o_isub, o_imul, o_iand, o_ior, o_ishl, o_ladd, o_lmul, o_land, o_lor, o_idiv, o_irem, o_ineg, o_i2l, o_l2i, o_i2b, o_i2s, o_lushr, o_lshr, o_lshl, o_lcmp, o_ifeq, o_ifne, o_iflt, o_ifge, o_ifgt, o_ifle, o_iceq, o_icne, o_iclt, o_icge, o_icgt, o_icle, o_goto, o_tsw, jsw, o_lsw, jlk, o_getf, o_putf, o_putz, o_iald, o_zald, o_iast, o_zast, o_aald, o_alen, o_gets, o_zld, o_zlen, o_cpy, o_call, o_callV, o_ireti, o_iretz, o_lret, o_vret, jg, js, jkp, jkill, jsp, jcs, jfw, jov, Value.category, Option.toList_some, Option.toList_none, List.nil_append, List.cons_append, List.append_nil, Nat.reduceAdd, true_and, and_true, jb0, jb01, jb1, jem, true_or, or_true, Classical.not_not, forall_const, List.length_cons, List.length_nil, Nat.reduceLeDiff, Nat.zero_le, Nat.reduceLT, hN]
        exact ⟨fun _ => hT, fun c => absurd (Int32.le_refl _) c⟩
      | succ n ih =>
        intro i hi
        refine H4 30 _ _ _ _ _ _ ?_
        simp only [sg_X6_howMany_0, sg_X6_howMany_4, sg_X6_howMany_20, sg_X6_howMany_26, cd_X6_howMany, jwp, o_ic, o_lc, o_iload, o_lload, o_aload, o_istore, o_lstore, o_astore, o_iinc, o_pop, o_dup, o_dup2, o_iadd, o_isub, o_imul, o_iand, o_ior, o_ishl, o_ladd, o_lmul, o_land, o_lor, o_idiv, o_irem, o_ineg, o_i2l, o_l2i, o_i2b, o_i2s, o_lushr, o_lshr, o_lshl, o_lcmp, o_ifeq, o_ifne, o_iflt, o_ifge, o_ifgt, o_ifle, o_iceq, o_icne, o_iclt, o_icge, o_icgt, o_icle, o_goto, o_tsw, jsw, o_lsw, jlk, o_getf, o_putf, o_putz, o_iald, o_zald, o_iast, o_zast, o_aald, o_alen, o_gets, o_zld, o_zlen, o_cpy, o_call, o_callV, o_ireti, o_iretz, o_lret, o_vret, jg, js, jkp, jkill, jsp, jcs, jfw, jov, Value.category, Option.toList_some, Option.toList_none, List.nil_append, List.cons_append, List.append_nil, Nat.reduceAdd, true_and, and_true, jb0, jb01, jb1, jem, true_or, or_true, Classical.not_not, forall_const, List.length_cons, List.length_nil, Nat.reduceLeDiff, Nat.zero_le, Nat.reduceLT, hN]
        have h2 := ih (i + 1) (by omega)
        refine ⟨fun c => absurd ((nI_leI (by omega) (by omega)).mp c) (by omega), fun _ => ⟨vp_in_nI (by omega) hlt, fun c => ?_, fun c => ?_⟩⟩
        · rw [nI_clamp (by omega)] at c
          rw [jcnt_neg c] at h2
          rw [nI_1]
          exact h2
        · rw [nI_clamp (by omega)] at c
          rw [jcnt_pos c] at h2
          rw [nI_1, nI_1]
          exact h2
    refine H0 30 _ _ _ _ _ _ ?_
    simp only [sg_X6_howMany_0, sg_X6_howMany_4, sg_X6_howMany_20, sg_X6_howMany_26, cd_X6_howMany, jwp, o_ic, o_lc, o_iload, o_lload, o_aload, o_istore, o_lstore, o_astore, o_iinc, o_pop, o_dup, o_dup2, o_iadd, o_isub, o_imul, o_iand, o_ior, o_ishl, o_ladd, o_lmul, o_land, o_lor, o_idiv, o_irem, o_ineg, o_i2l, o_l2i, o_i2b, o_i2s, o_lushr, o_lshr, o_lshl, o_lcmp, o_ifeq, o_ifne, o_iflt, o_ifge, o_ifgt, o_ifle, o_iceq, o_icne, o_iclt, o_icge, o_icgt, o_icle, o_goto, o_tsw, jsw, o_lsw, jlk, o_getf, o_putf, o_putz, o_iald, o_zald, o_iast, o_zast, o_aald, o_alen, o_gets, o_zld, o_zlen, o_cpy, o_call, o_callV, o_ireti, o_iretz, o_lret, o_vret, jg, js, jkp, jkill, jsp, jcs, jfw, jov, Value.category, Option.toList_some, Option.toList_none, List.nil_append, List.cons_append, List.append_nil, Nat.reduceAdd, true_and, and_true, jb0, jb01, jb1, jem, true_or, or_true, Classical.not_not, forall_const, List.length_cons, List.length_nil, Nat.reduceLeDiff, Nat.zero_le, Nat.reduceLT, hN]
    exact loop N 0 (by omega)
theorem m_X6_howMany (l : Launch) : jHolds vwCl l yX6_howMany wsX6_howMany 0 0 0 0 T_X6_howMany := by
  refine m_X6_howMany_of l (fun G Q vs K h H0 H4 hT => ?_)
  unfold T_X6_howMany at hT
  split at hT
  · skip
    exact ⟨Nat.le_of_ble_eq_true rfl, v_X6_howMany hT H0 H4⟩
  · exact hT.elim

def jcu (f : Nat → Int32) (c : Nat) : Prop := ∃ r, r < 240 ∧ ¬ f (c + 240 * r) = 0

/-- the least number below N with p, or -1 -/
def jleast (p : Nat → Prop) (N : Nat) (r : Int32) : Prop := (∃ k, k < N ∧ p k ∧ (∀ j, j < k → ¬ p j) ∧ r = nI k) ∨ ((∀ j, j < N → ¬ p j) ∧ r = -1)
/-- the greatest -/
def jmost (p : Nat → Prop) (N : Nat) (r : Int32) : Prop := (∃ k, k < N ∧ p k ∧ (∀ j, k < j → j < N → ¬ p j) ∧ r = nI k) ∨ ((∀ j, j < N → ¬ p j) ∧ r = -1)



theorem nI_nm1 {i : Nat} (h : i < 2147483648) : ¬ nI i = -1 := by
  intro q
  have h2 := congrArg Int32.toInt q
  rw [nI_toInt h] at h2
  have : (-1 : Int32).toInt = -1 := rfl
  omega


