/-! ===== loops of the class's parts ===== -/
noncomputable def jcnt (p : Nat → Prop) : Nat → Nat
  | 0 => 0
  | n + 1 => jcnt p n + @ite Nat (p n) (Classical.propDecidable _) 1 0
theorem jcnt_le (p : Nat → Prop) : ∀ n, jcnt p n ≤ n
  | 0 => Nat.le_refl _
  | n + 1 => by
    have := jcnt_le p n
    unfold jcnt
    by_cases h : p n
    · rw [if_pos h]; omega
    · rw [if_neg h]; omega
theorem jcnt_pos {p : Nat → Prop} {n : Nat} (h : p n) : jcnt p (n + 1) = jcnt p n + 1 := by
  show _ + _ = _; rw [if_pos h]
theorem jcnt_neg {p : Nat → Prop} {n : Nat} (h : ¬ p n) : jcnt p (n + 1) = jcnt p n := by
  show _ + _ = _; rw [if_neg h]; rfl
theorem e57600 : (57600 : Int32) = nI 57600 := rfl
theorem e57599 : (57599 : Int32) = nI 57599 := rfl
theorem e240 : (240 : Int32) = nI 240 := rfl
theorem e239 : (239 : Int32) = nI 239 := rfl
theorem e4 : (4 : Int32) = nI 4 := rfl
theorem e2 : (2 : Int32) = nI 2 := rfl
theorem nI_m1 (i : Nat) : nI (i + 1) + -1 = nI i := by
  rw [nI_succ, Int32.add_assoc]
  rw [show (1 : Int32) + -1 = 0 from rfl, Int32.add_zero]
theorem nI_neg1 : nI 0 + -1 = -1 := rfl

/-! X6_colourIn -/
theorem onF_int {x y : Int32} (h : onF x y) : (-120 ≤ x.toInt ∧ x.toInt ≤ 119) ∧ (-120 ≤ y.toInt ∧ y.toInt ≤ 119) := by
  obtain ⟨⟨h1, h2⟩, h3, h4⟩ := h
  rw [Int32.le_iff_toInt_le] at h1 h2 h3 h4
  exact ⟨⟨h1, h2⟩, h3, h4⟩
theorem onF_of {x y : Int32} (h : (-120 ≤ x.toInt ∧ x.toInt ≤ 119) ∧ (-120 ≤ y.toInt ∧ y.toInt ≤ 119)) : onF x y := by
  obtain ⟨⟨h1, h2⟩, h3, h4⟩ := h
  refine ⟨⟨?_, ?_⟩, ?_, ?_⟩ <;> rw [Int32.le_iff_toInt_le]
  · exact h1
  · exact h2
  · exact h3
  · exact h4
theorem ti_add {x y : Int32} (h1 : -2147483648 ≤ x.toInt + y.toInt) (h2 : x.toInt + y.toInt < 2147483648) : (x + y).toInt = x.toInt + y.toInt := by
  rw [Int32.toInt_add, Int.bmod_eq_of_le (by omega) (by omega)]
theorem ti_sub {x y : Int32} (h1 : -2147483648 ≤ x.toInt - y.toInt) (h2 : x.toInt - y.toInt < 2147483648) : (x - y).toInt = x.toInt - y.toInt := by
  rw [Int32.toInt_sub, Int.bmod_eq_of_le (by omega) (by omega)]
theorem ti_mul {x y : Int32} (h1 : -2147483648 ≤ x.toInt * y.toInt) (h2 : x.toInt * y.toInt < 2147483648) : (x * y).toInt = x.toInt * y.toInt := by
  rw [Int32.toInt_mul, Int.bmod_eq_of_le (by omega) (by omega)]
theorem jpl_off {x y : Int32} (h : ¬ onF x y) : jpl x y = -1 := if_neg h
theorem jpl_int {x y : Int32} (h : onF x y) : (jpl x y).toInt = (y.toInt + 120) * 240 + (x.toInt + 120) := by
  obtain ⟨⟨h1, h2⟩, h3, h4⟩ := onF_int h
  have e : jpl x y = (y - -120) * 240 + (x - -120) := if_pos h
  rw [e]
  have m1 : (-120 : Int32).toInt = -120 := rfl
  have m2 : (240 : Int32).toInt = 240 := rfl
  have a1 : (y - -120).toInt = y.toInt + 120 := by rw [ti_sub (by omega) (by omega)]; omega
  have a2 : (x - -120).toInt = x.toInt + 120 := by rw [ti_sub (by omega) (by omega)]; omega
  have a3 : ((y - -120) * 240).toInt = (y.toInt + 120) * 240 := by rw [ti_mul (by rw [a1, m2]; omega) (by rw [a1, m2]; omega), a1, m2]
  rw [ti_add (by rw [a3, a2]; omega) (by rw [a3, a2]; omega), a3, a2]
theorem jpl_in {x y : Int32} (h : onF x y) : vp_in (jpl x y) 57600 := by
  obtain ⟨⟨h1, h2⟩, h3, h4⟩ := onF_int h
  rw [vp_in_iff, jpl_int h]
  omega
/-- the colour of a cell in a row; 0 beyond the floor -/
noncomputable def jcol (f : Nat → Int32) (x y : Int32) : Int32 := @ite Int32 (onF x y) (Classical.propDecidable _) (f (jpl x y).toNatClampNeg) 0
def T_X6_colourIn : jT := fun vs K h Q => match vs with
  | [.ref a, .int x, .int y] => (jX K ∧ (a = 2 ∨ a = 26) ∧ Q (some (.int (jcol (h a) x y))) K h)
  | _ => False
def sg_X6_colourIn_0 : jS := [(o_iload 1, 1), (o_iload 2, 1), (o_call 2 T_X6_placeOf, 3), (o_istore 3, 1), (o_iload 3, 1), (o_ifge 14, 3), (o_ic (0), 1), (o_goto 17, 3)]
def sg_X6_colourIn_14 : jS := [(o_aload 0, 1), (o_iload 3, 1), (o_iald, 1), (o_ireti, 1)]
def sg_X6_colourIn_17 : jS := [(o_ireti, 1)]
def cd_X6_colourIn : Nat → jS := fun t => match t with
  | 14 => sg_X6_colourIn_14
  | 17 => sg_X6_colourIn_17
  | _ => []
def E_X6_colourIn (Γ : jΓ) (Q : jPost) : Prop := Γ.2.2.2.2.2.2.2.2.2.2.1 = 4 ∧ Γ.2.2.2.2.2.2.2.2.2.2.2.1 = vwCl ∧ jC Γ cX6_colourIn RX6 "colourIn" (some .int) wsX6_colourIn 2 42 0 0 ∧ jR Γ Q 0 0
theorem oo_X6_colourIn_0 {Γ : jΓ} {Q : jPost} (E : E_X6_colourIn Γ Q) : jSA Γ Q 0 (o_iload 1) 1 := so_iload_n E.2.2.1 rfl dX6_colourIn_0
theorem oo_X6_colourIn_1 {Γ : jΓ} {Q : jPost} (E : E_X6_colourIn Γ Q) : jSA Γ Q 1 (o_iload 2) 1 := so_iload_n E.2.2.1 rfl dX6_colourIn_1
theorem oo_X6_colourIn_2 {Γ : jΓ} {Q : jPost} (E : E_X6_colourIn Γ Q) : jSA Γ Q 2 (o_call 2 T_X6_placeOf) 3 := so_callS E.2.2.1 gX6_colourIn_X6_placeOf (by decide +kernel) rfl (by rw [E.2.1]; exact m_X6_placeOf _) (by decide) (by decide) dX6_colourIn_2
theorem oo_X6_colourIn_5 {Γ : jΓ} {Q : jPost} (E : E_X6_colourIn Γ Q) : jSA Γ Q 5 (o_istore 3) 1 := so_istore_n E.2.2.1 rfl (by rw [E.1]; decide) dX6_colourIn_5
theorem oo_X6_colourIn_6 {Γ : jΓ} {Q : jPost} (E : E_X6_colourIn Γ Q) : jSA Γ Q 6 (o_iload 3) 1 := so_iload_n E.2.2.1 rfl dX6_colourIn_6
theorem oo_X6_colourIn_7 {Γ : jΓ} {Q : jPost} (E : E_X6_colourIn Γ Q) : jSA Γ Q 7 (o_ifge 14) 3 := so_ifge E.2.2.1 (by decide) dX6_colourIn_7
theorem oo_X6_colourIn_10 {Γ : jΓ} {Q : jPost} (E : E_X6_colourIn Γ Q) : jSA Γ Q 10 (o_ic (0)) 1 := so_iconst E.2.2.1 rfl dX6_colourIn_10
theorem oo_X6_colourIn_11 {Γ : jΓ} {Q : jPost} (E : E_X6_colourIn Γ Q) : jSA Γ Q 11 (o_goto 17) 3 := so_goto E.2.2.1 (by decide) dX6_colourIn_11
theorem oo_X6_colourIn_14 {Γ : jΓ} {Q : jPost} (E : E_X6_colourIn Γ Q) : jSA Γ Q 14 (o_aload 0) 1 := so_aload_n E.2.2.1 rfl dX6_colourIn_14
theorem oo_X6_colourIn_15 {Γ : jΓ} {Q : jPost} (E : E_X6_colourIn Γ Q) : jSA Γ Q 15 (o_iload 3) 1 := so_iload_n E.2.2.1 rfl dX6_colourIn_15
theorem oo_X6_colourIn_16 {Γ : jΓ} {Q : jPost} (E : E_X6_colourIn Γ Q) : jSA Γ Q 16 (o_iald) 1 := so_iald E.2.2.1 dX6_colourIn_16
theorem oo_X6_colourIn_17 {Γ : jΓ} {Q : jPost} (E : E_X6_colourIn Γ Q) : jSA Γ Q 17 (o_ireti) 1 := so_ireti E.2.2.1 E.2.2.2 dX6_colourIn_17
theorem ok_X6_colourIn_0 {Γ : jΓ} {Q : jPost} (E : E_X6_colourIn Γ Q) : jSS Γ Q 0 sg_X6_colourIn_0 := ⟨oo_X6_colourIn_0 E, oo_X6_colourIn_1 E, oo_X6_colourIn_2 E, oo_X6_colourIn_5 E, oo_X6_colourIn_6 E, oo_X6_colourIn_7 E, oo_X6_colourIn_10 E, oo_X6_colourIn_11 E, trivial⟩
theorem ok_X6_colourIn_14 {Γ : jΓ} {Q : jPost} (E : E_X6_colourIn Γ Q) : jSS Γ Q 14 sg_X6_colourIn_14 := ⟨oo_X6_colourIn_14 E, oo_X6_colourIn_15 E, oo_X6_colourIn_16 E, oo_X6_colourIn_17 E, trivial⟩
theorem ok_X6_colourIn_17 {Γ : jΓ} {Q : jPost} (E : E_X6_colourIn Γ Q) : jSS Γ Q 17 sg_X6_colourIn_17 := ⟨oo_X6_colourIn_17 E, trivial⟩
theorem okc_X6_colourIn {Γ : jΓ} {Q : jPost} (E : E_X6_colourIn Γ Q) (t : Nat) : jSS Γ Q t (cd_X6_colourIn t) := by
  unfold cd_X6_colourIn
  split
  · exact ok_X6_colourIn_14 E
  · exact ok_X6_colourIn_17 E
  · trivial
theorem m_X6_colourIn_of (l : Launch) (hv : ∀ (G : jGt) (Q : jPost) (vs : List Value) (K : List jK) (h : jM), jHd cd_X6_colourIn G Q sg_X6_colourIn_0 0 → T_X6_colourIn vs K h Q → (lg_sl vs).length ≤ 4 ∧ G 0 (jinit vs 4) [] K h 0 0) : jHolds vwCl l yX6_colourIn wsX6_colourIn 2 42 0 0 T_X6_colourIn := by
  refine jMet (cc := cX6_colourIn) (maxL := 4) (rt := (some .int)) (by decide +kernel) rfl (fun Γ Q vs K h hl hn hcl C hR hT => hv (jG Γ) Q vs K h ?_ hT)
  · exact fun n L st K h ce sl => jwp_ok (okc_X6_colourIn ⟨hn, hcl, C, hR⟩) n sg_X6_colourIn_0 0 (ok_X6_colourIn_0 ⟨hn, hcl, C, hR⟩) L st K h ce sl
set_option maxHeartbeats 4000000 in
set_option maxRecDepth 100000 in
theorem v_X6_colourIn {G : jGt} {Q : jPost} {K : List jK} {h : jM} {a : Nat} {x : Int32} {y : Int32} (hT : jX K ∧ (a = 2 ∨ a = 26) ∧ Q (some (.int (jcol (h a) x y))) K h) (H0 : jHd cd_X6_colourIn G Q sg_X6_colourIn_0 0) : G 0 [some (.ref a), some (.int x), some (.int y), none] [] K h 0 0 := by
  obtain ⟨hX, ha, hT⟩ := hT
  have hl : jln K a 0 = some 57600 := by
    rcases ha with rfl | rfl
    · exact kxa_2 hX
    · exact kxa_26 hX
  refine H0 30 _ _ _ _ _ _ ?_
  simp only [sg_X6_colourIn_0, sg_X6_colourIn_14, sg_X6_colourIn_17, cd_X6_colourIn, jwp, o_ic, o_lc, o_iload, o_lload, o_aload, o_istore, o_lstore, o_astore, o_iinc, o_pop, o_dup, o_dup2, o_iadd, o_isub, o_imul, o_iand, o_ior, o_ishl, o_ladd, o_lmul, o_land, o_lor, o_idiv, o_irem, o_ineg, o_i2l, o_l2i, o_i2b, o_i2s, o_lushr, o_lshr, o_lshl, o_lcmp, o_ifeq, o_ifne, o_iflt, o_ifge, o_ifgt, o_ifle, o_iceq, o_icne, o_iclt, o_icge, o_icgt, o_icle, o_goto, o_tsw, jsw, o_lsw, jlk, o_getf, o_putf, o_putz, o_iald, o_zald, o_iast, o_zast, o_aald, o_alen, o_gets, o_zld, o_zlen, o_cpy, o_call, o_callV, o_ireti, o_iretz, o_lret, o_vret, jg, js, jkp, jkill, jsp, jcs, jfw, jov, Value.category, Option.toList_some, Option.toList_none, List.nil_append, List.cons_append, List.append_nil, Nat.reduceAdd, true_and, and_true, jb0, jb01, jb1, jem, true_or, or_true, Classical.not_not, forall_const, List.length_cons, List.length_nil, Nat.reduceLeDiff, Nat.zero_le, Nat.reduceLT, T_X6_placeOf, hl]
  unfold jcol at hT
  by_cases c : onF x y
  · rw [if_pos c] at hT
    have hp := jpl_in c
    have hp2 := vp_in_iff.mp hp
    refine ⟨fun _ => ⟨hp, hT⟩, fun c2 => absurd ?_ c2⟩
    rw [Int32.le_iff_toInt_le]
    exact hp2.1
  · rw [if_neg c] at hT
    rw [jpl_off c]
    refine ⟨fun c2 => absurd c2 (by decide), fun _ => hT⟩
theorem m_X6_colourIn (l : Launch) : jHolds vwCl l yX6_colourIn wsX6_colourIn 2 42 0 0 T_X6_colourIn := by
  refine m_X6_colourIn_of l (fun G Q vs K h H0 hT => ?_)
  unfold T_X6_colourIn at hT
  split at hT
  · skip
    exact ⟨Nat.le_of_ble_eq_true rfl, v_X6_colourIn hT H0⟩
  · exact hT.elim

/-! X6_howMany -/
def T_X6_howMany : jT := fun vs K h Q => match vs with
  | [.ref a, .int v] => (match jln K a 0 with | some N => N < 2147483648 ∧ Q (some (.int (nI (jcnt (fun k => h a k = v) N)))) K h | none => False)
  | _ => False
def sg_X6_howMany_0 : jS := [(o_ic (0), 1), (o_istore 2, 1), (o_ic (0), 1), (o_istore 3, 1)]
def sg_X6_howMany_4 : jS := [(o_iload 3, 1), (o_aload 0, 1), (o_alen 0, 1), (o_icge 26, 3), (o_aload 0, 1), (o_iload 3, 1), (o_iald, 1), (o_iload 1, 1), (o_icne 20, 3), (o_iinc 2 (1), 3), (o_iinc 3 (1), 3), (o_goto 4, 3)]
def sg_X6_howMany_20 : jS := [(o_iinc 3 (1), 3), (o_goto 4, 3)]
def sg_X6_howMany_26 : jS := [(o_iload 2, 1), (o_ireti, 1)]
def cd_X6_howMany : Nat → jS := fun t => match t with
  | 20 => sg_X6_howMany_20
  | 26 => sg_X6_howMany_26
  | _ => []
def E_X6_howMany (Γ : jΓ) (Q : jPost) : Prop := Γ.2.2.2.2.2.2.2.2.2.2.1 = 4 ∧ Γ.2.2.2.2.2.2.2.2.2.2.2.1 = vwCl ∧ jC Γ cX6_howMany RX6 "howMany" (some .int) wsX6_howMany 0 0 0 0 ∧ jR Γ Q 0 0
theorem oo_X6_howMany_0 {Γ : jΓ} {Q : jPost} (E : E_X6_howMany Γ Q) : jSA Γ Q 0 (o_ic (0)) 1 := so_iconst E.2.2.1 rfl dX6_howMany_0
theorem oo_X6_howMany_1 {Γ : jΓ} {Q : jPost} (E : E_X6_howMany Γ Q) : jSA Γ Q 1 (o_istore 2) 1 := so_istore_n E.2.2.1 rfl (by rw [E.1]; decide) dX6_howMany_1
theorem oo_X6_howMany_2 {Γ : jΓ} {Q : jPost} (E : E_X6_howMany Γ Q) : jSA Γ Q 2 (o_ic (0)) 1 := so_iconst E.2.2.1 rfl dX6_howMany_2
theorem oo_X6_howMany_3 {Γ : jΓ} {Q : jPost} (E : E_X6_howMany Γ Q) : jSA Γ Q 3 (o_istore 3) 1 := so_istore_n E.2.2.1 rfl (by rw [E.1]; decide) dX6_howMany_3
theorem oo_X6_howMany_4 {Γ : jΓ} {Q : jPost} (E : E_X6_howMany Γ Q) : jSA Γ Q 4 (o_iload 3) 1 := so_iload_n E.2.2.1 rfl dX6_howMany_4
theorem oo_X6_howMany_5 {Γ : jΓ} {Q : jPost} (E : E_X6_howMany Γ Q) : jSA Γ Q 5 (o_aload 0) 1 := so_aload_n E.2.2.1 rfl dX6_howMany_5
theorem oo_X6_howMany_6 {Γ : jΓ} {Q : jPost} (E : E_X6_howMany Γ Q) : jSA Γ Q 6 (o_alen 0) 1 := so_alen0 E.2.2.1 dX6_howMany_6
theorem oo_X6_howMany_7 {Γ : jΓ} {Q : jPost} (E : E_X6_howMany Γ Q) : jSA Γ Q 7 (o_icge 26) 3 := so_icge E.2.2.1 (by decide) dX6_howMany_7
theorem oo_X6_howMany_10 {Γ : jΓ} {Q : jPost} (E : E_X6_howMany Γ Q) : jSA Γ Q 10 (o_aload 0) 1 := so_aload_n E.2.2.1 rfl dX6_howMany_10
theorem oo_X6_howMany_11 {Γ : jΓ} {Q : jPost} (E : E_X6_howMany Γ Q) : jSA Γ Q 11 (o_iload 3) 1 := so_iload_n E.2.2.1 rfl dX6_howMany_11
theorem oo_X6_howMany_12 {Γ : jΓ} {Q : jPost} (E : E_X6_howMany Γ Q) : jSA Γ Q 12 (o_iald) 1 := so_iald E.2.2.1 dX6_howMany_12
theorem oo_X6_howMany_13 {Γ : jΓ} {Q : jPost} (E : E_X6_howMany Γ Q) : jSA Γ Q 13 (o_iload 1) 1 := so_iload_n E.2.2.1 rfl dX6_howMany_13
theorem oo_X6_howMany_14 {Γ : jΓ} {Q : jPost} (E : E_X6_howMany Γ Q) : jSA Γ Q 14 (o_icne 20) 3 := so_icne E.2.2.1 (by decide) dX6_howMany_14
theorem oo_X6_howMany_17 {Γ : jΓ} {Q : jPost} (E : E_X6_howMany Γ Q) : jSA Γ Q 17 (o_iinc 2 (1)) 3 := so_iinc E.2.2.1 rfl (by rw [E.1]; decide) dX6_howMany_17
theorem oo_X6_howMany_20 {Γ : jΓ} {Q : jPost} (E : E_X6_howMany Γ Q) : jSA Γ Q 20 (o_iinc 3 (1)) 3 := so_iinc E.2.2.1 rfl (by rw [E.1]; decide) dX6_howMany_20
theorem oo_X6_howMany_23 {Γ : jΓ} {Q : jPost} (E : E_X6_howMany Γ Q) : jSA Γ Q 23 (o_goto 4) 3 := so_goto E.2.2.1 (by decide) dX6_howMany_23
theorem oo_X6_howMany_26 {Γ : jΓ} {Q : jPost} (E : E_X6_howMany Γ Q) : jSA Γ Q 26 (o_iload 2) 1 := so_iload_n E.2.2.1 rfl dX6_howMany_26
theorem oo_X6_howMany_27 {Γ : jΓ} {Q : jPost} (E : E_X6_howMany Γ Q) : jSA Γ Q 27 (o_ireti) 1 := so_ireti E.2.2.1 E.2.2.2 dX6_howMany_27
theorem ok_X6_howMany_0 {Γ : jΓ} {Q : jPost} (E : E_X6_howMany Γ Q) : jSS Γ Q 0 sg_X6_howMany_0 := ⟨oo_X6_howMany_0 E, oo_X6_howMany_1 E, oo_X6_howMany_2 E, oo_X6_howMany_3 E, trivial⟩
theorem ok_X6_howMany_4 {Γ : jΓ} {Q : jPost} (E : E_X6_howMany Γ Q) : jSS Γ Q 4 sg_X6_howMany_4 := ⟨oo_X6_howMany_4 E, oo_X6_howMany_5 E, oo_X6_howMany_6 E, oo_X6_howMany_7 E, oo_X6_howMany_10 E, oo_X6_howMany_11 E, oo_X6_howMany_12 E, oo_X6_howMany_13 E, oo_X6_howMany_14 E, oo_X6_howMany_17 E, oo_X6_howMany_20 E, oo_X6_howMany_23 E, trivial⟩
theorem ok_X6_howMany_20 {Γ : jΓ} {Q : jPost} (E : E_X6_howMany Γ Q) : jSS Γ Q 20 sg_X6_howMany_20 := ⟨oo_X6_howMany_20 E, oo_X6_howMany_23 E, trivial⟩
theorem ok_X6_howMany_26 {Γ : jΓ} {Q : jPost} (E : E_X6_howMany Γ Q) : jSS Γ Q 26 sg_X6_howMany_26 := ⟨oo_X6_howMany_26 E, oo_X6_howMany_27 E, trivial⟩
theorem okc_X6_howMany {Γ : jΓ} {Q : jPost} (E : E_X6_howMany Γ Q) (t : Nat) : jSS Γ Q t (cd_X6_howMany t) := by
  unfold cd_X6_howMany
  split
  · exact ok_X6_howMany_20 E
  · exact ok_X6_howMany_26 E
  · trivial
theorem m_X6_howMany_of (l : Launch) (hv : ∀ (G : jGt) (Q : jPost) (vs : List Value) (K : List jK) (h : jM), jHd cd_X6_howMany G Q sg_X6_howMany_0 0 → jHd cd_X6_howMany G Q sg_X6_howMany_4 4 → T_X6_howMany vs K h Q → (lg_sl vs).length ≤ 4 ∧ G 0 (jinit vs 4) [] K h 0 0) : jHolds vwCl l yX6_howMany wsX6_howMany 0 0 0 0 T_X6_howMany := by
  refine jMet (cc := cX6_howMany) (maxL := 4) (rt := (some .int)) (by decide +kernel) rfl (fun Γ Q vs K h hl hn hcl C hR hT => hv (jG Γ) Q vs K h ?_ ?_ hT)
  · exact fun n L st K h ce sl => jwp_ok (okc_X6_howMany ⟨hn, hcl, C, hR⟩) n sg_X6_howMany_0 0 (ok_X6_howMany_0 ⟨hn, hcl, C, hR⟩) L st K h ce sl
  · exact fun n L st K h ce sl => jwp_ok (okc_X6_howMany ⟨hn, hcl, C, hR⟩) n sg_X6_howMany_4 4 (ok_X6_howMany_4 ⟨hn, hcl, C, hR⟩) L st K h ce sl
set_option maxHeartbeats 4000000 in
set_option maxRecDepth 100000 in
theorem v_X6_howMany {G : jGt} {Q : jPost} {K : List jK} {h : jM} {a : Nat} {v : Int32} (hT : match jln K a 0 with | some N => N < 2147483648 ∧ Q (some (.int (nI (jcnt (fun k => h a k = v) N)))) K h | none => False) (H0 : jHd cd_X6_howMany G Q sg_X6_howMany_0 0) (H4 : jHd cd_X6_howMany G Q sg_X6_howMany_4 4) : G 0 [some (.ref a), some (.int v), none, none] [] K h 0 0 := by
  cases hN : jln K a 0 with
  | none => rw [hN] at hT; exact hT.elim
  | some N =>
    rw [hN] at hT
    obtain ⟨hlt, hT⟩ := hT
    have loop : ∀ n i, i + n = N → G 4 [some (.ref a), some (.int v), some (.int (nI (jcnt (fun k => h a k = v) i))), some (.int (nI i))] [] K h 0 0 := by
      intro n
      induction n with
      | zero =>
        intro i hi
        have : i = N := by omega
        subst this
        refine H4 30 _ _ _ _ _ _ ?_
        simp only [sg_X6_howMany_0, sg_X6_howMany_4, sg_X6_howMany_20, sg_X6_howMany_26, cd_X6_howMany, jwp, o_ic, o_lc, o_iload, o_lload, o_aload, o_istore, o_lstore, o_astore, o_iinc, o_pop, o_dup, o_dup2, o_iadd, o_isub, o_imul, o_iand, o_ior, o_ishl, o_ladd, o_lmul, o_land, o_lor, o_idiv, o_irem, o_ineg, o_i2l, o_l2i, o_i2b, o_i2s, o_lushr, o_lshr, o_lshl, o_lcmp, o_ifeq, o_ifne, o_iflt, o_ifge, o_ifgt, o_ifle, o_iceq, o_icne, o_iclt, o_icge, o_icgt, o_icle, o_goto, o_tsw, jsw, o_lsw, jlk, o_getf, o_putf, o_putz, o_iald, o_zald, o_iast, o_zast, o_aald, o_alen, o_gets, o_zld, o_zlen, o_cpy, o_call, o_callV, o_ireti, o_iretz, o_lret, o_vret, jg, js, jkp, jkill, jsp, jcs, jfw, jov, Value.category, Option.toList_some, Option.toList_none, List.nil_append, List.cons_append, List.append_nil, Nat.reduceAdd, true_and, and_true, jb0, jb01, jb1, jem, true_or, or_true, Classical.not_not, forall_const, List.length_cons, List.length_nil, Nat.reduceLeDiff, Nat.zero_le, Nat.reduceLT, hN]
        exact ⟨fun _ => hT, fun c => absurd (Int32.le_refl _) c⟩
      | succ n ih =>
        intro i hi
        refine H4 30 _ _ _ _ _ _ ?_
        simp only [sg_X6_howMany_0, sg_X6_howMany_4, sg_X6_howMany_20, sg_X6_howMany_26, cd_X6_howMany, jwp, o_ic, o_lc, o_iload, o_lload, o_aload, o_istore, o_lstore, o_astore, o_iinc, o_pop, o_dup, o_dup2, o_iadd, o_isub, o_imul, o_iand, o_ior, o_ishl, o_ladd, o_lmul, o_land, o_lor, o_idiv, o_irem, o_ineg, o_i2l, o_l2i, o_i2b, o_i2s, o_lushr, o_lshr, o_lshl, o_lcmp, o_ifeq, o_ifne, o_iflt, o_ifge, o_ifgt, o_ifle, o_iceq, o_icne, o_iclt, o_icge, o_icgt, o_icle, o_goto, o_tsw, jsw, o_lsw, jlk, o_getf, o_putf, o_putz, o_iald, o_zald, o_iast, o_zast, o_aald, o_alen, o_gets, o_zld, o_zlen, o_cpy, o_call, o_callV, o_ireti, o_iretz, o_lret, o_vret, jg, js, jkp, jkill, jsp, jcs, jfw, jov, Value.category, Option.toList_some, Option.toList_none, List.nil_append, List.cons_append, List.append_nil, Nat.reduceAdd, true_and, and_true, jb0, jb01, jb1, jem, true_or, or_true, Classical.not_not, forall_const, List.length_cons, List.length_nil, Nat.reduceLeDiff, Nat.zero_le, Nat.reduceLT, hN]
        have h2 := ih (i + 1) (by omega)
        refine ⟨fun c => absurd ((nI_leI (by omega) (by omega)).mp c) (by omega), fun _ => ⟨vp_in_nI (by omega) hlt, fun c => ?_, fun c => ?_⟩⟩
        · rw [nI_clamp (by omega)] at c
          rw [jcnt_neg c] at h2
          rw [nI_1]
          exact h2
        · rw [nI_clamp (by omega)] at c
          rw [jcnt_pos c] at h2
          rw [nI_1, nI_1]
          exact h2
    refine H0 30 _ _ _ _ _ _ ?_
    simp only [sg_X6_howMany_0, sg_X6_howMany_4, sg_X6_howMany_20, sg_X6_howMany_26, cd_X6_howMany, jwp, o_ic, o_lc, o_iload, o_lload, o_aload, o_istore, o_lstore, o_astore, o_iinc, o_pop, o_dup, o_dup2, o_iadd, o_isub, o_imul, o_iand, o_ior, o_ishl, o_ladd, o_lmul, o_land, o_lor, o_idiv, o_irem, o_ineg, o_i2l, o_l2i, o_i2b, o_i2s, o_lushr, o_lshr, o_lshl, o_lcmp, o_ifeq, o_ifne, o_iflt, o_ifge, o_ifgt, o_ifle, o_iceq, o_icne, o_iclt, o_icge, o_icgt, o_icle, o_goto, o_tsw, jsw, o_lsw, jlk, o_getf, o_putf, o_putz, o_iald, o_zald, o_iast, o_zast, o_aald, o_alen, o_gets, o_zld, o_zlen, o_cpy, o_call, o_callV, o_ireti, o_iretz, o_lret, o_vret, jg, js, jkp, jkill, jsp, jcs, jfw, jov, Value.category, Option.toList_some, Option.toList_none, List.nil_append, List.cons_append, List.append_nil, Nat.reduceAdd, true_and, and_true, jb0, jb01, jb1, jem, true_or, or_true, Classical.not_not, forall_const, List.length_cons, List.length_nil, Nat.reduceLeDiff, Nat.zero_le, Nat.reduceLT, hN]
    exact loop N 0 (by omega)
theorem m_X6_howMany (l : Launch) : jHolds vwCl l yX6_howMany wsX6_howMany 0 0 0 0 T_X6_howMany := by
  refine m_X6_howMany_of l (fun G Q vs K h H0 H4 hT => ?_)
  unfold T_X6_howMany at hT
  split at hT
  · skip
    exact ⟨Nat.le_of_ble_eq_true rfl, v_X6_howMany hT H0 H4⟩
  · exact hT.elim

/-! X1_isColumnUsed -/
def jcu (f : Nat → Int32) (c : Nat) : Prop := ∃ r, r < 240 ∧ ¬ f (c + 240 * r) = 0
def T_X1_isColumnUsed : jT := fun vs K h Q => match vs with
  | [.ref r0, .int c] => r0 = 1 ∧ (jX K ∧ vp_in c 240 ∧ Q (some (.int (jb (jcu (h 2) c.toNatClampNeg)))) K h)
  | _ => False
def sg_X1_isColumnUsed_0 : jS := [(o_iload 1, 1), (o_istore 2, 1)]
def sg_X1_isColumnUsed_2 : jS := [(o_iload 2, 1), (o_ic (57600), 2), (o_icge 28, 3), (o_aload 0, 1), (o_getf 1 2, 3), (o_iload 2, 1), (o_iald, 1), (o_ifeq 19, 3), (o_ic (1), 1), (o_iretz, 1)]
def sg_X1_isColumnUsed_19 : jS := [(o_iinc 2 (240), 6), (o_goto 2, 3)]
def sg_X1_isColumnUsed_28 : jS := [(o_ic (0), 1), (o_iretz, 1)]
def cd_X1_isColumnUsed : Nat → jS := fun t => match t with
  | 19 => sg_X1_isColumnUsed_19
  | 28 => sg_X1_isColumnUsed_28
  | _ => []
theorem wl_X1_isColumnUsed_19 : Cond.fieldLink RX1 19 (TX1 2).1 (TX1 2).2.1 (TX1 2).2.2.1 ∈ wsX1_isColumnUsed := by decide +kernel
theorem wi_X1_isColumnUsed_X1 : ∀ w ∈ u_ws RX1 TX1 4, w ∈ wsX1_isColumnUsed := by decide +kernel
def E_X1_isColumnUsed (Γ : jΓ) (Q : jPost) : Prop := Γ.2.2.2.2.2.2.2.2.2.2.1 = 3 ∧ Γ.2.2.2.2.2.2.2.2.2.2.2.1 = vwCl ∧ jC Γ cX1_isColumnUsed RX1 "isColumnUsed" (some .boolean) wsX1_isColumnUsed 0 0 0 0 ∧ jR Γ Q 0 0
theorem oo_X1_isColumnUsed_0 {Γ : jΓ} {Q : jPost} (E : E_X1_isColumnUsed Γ Q) : jSA Γ Q 0 (o_iload 1) 1 := so_iload_n E.2.2.1 rfl dX1_isColumnUsed_0
theorem oo_X1_isColumnUsed_1 {Γ : jΓ} {Q : jPost} (E : E_X1_isColumnUsed Γ Q) : jSA Γ Q 1 (o_istore 2) 1 := so_istore_n E.2.2.1 rfl (by rw [E.1]; decide) dX1_isColumnUsed_1
theorem oo_X1_isColumnUsed_2 {Γ : jΓ} {Q : jPost} (E : E_X1_isColumnUsed Γ Q) : jSA Γ Q 2 (o_iload 2) 1 := so_iload_n E.2.2.1 rfl dX1_isColumnUsed_2
theorem oo_X1_isColumnUsed_3 {Γ : jΓ} {Q : jPost} (E : E_X1_isColumnUsed Γ Q) : jSA Γ Q 3 (o_ic (57600)) 2 := so_ldc E.2.2.1 (by decide +kernel) dX1_isColumnUsed_3
theorem oo_X1_isColumnUsed_5 {Γ : jΓ} {Q : jPost} (E : E_X1_isColumnUsed Γ Q) : jSA Γ Q 5 (o_icge 28) 3 := so_icge E.2.2.1 (by decide) dX1_isColumnUsed_5
theorem oo_X1_isColumnUsed_8 {Γ : jΓ} {Q : jPost} (E : E_X1_isColumnUsed Γ Q) : jSA Γ Q 8 (o_aload 0) 1 := so_aload_n E.2.2.1 rfl dX1_isColumnUsed_8
theorem oo_X1_isColumnUsed_9 {Γ : jΓ} {Q : jPost} (E : E_X1_isColumnUsed Γ Q) : jSA Γ Q 9 (o_getf 1 2) 3 := so_getf (ci := 1) E.2.2.1 wi_X1_isColumnUsed_X1 (by rw [E.2.1]; rfl) 2 (by decide) wl_X1_isColumnUsed_19 dX1_isColumnUsed_9
theorem oo_X1_isColumnUsed_12 {Γ : jΓ} {Q : jPost} (E : E_X1_isColumnUsed Γ Q) : jSA Γ Q 12 (o_iload 2) 1 := so_iload_n E.2.2.1 rfl dX1_isColumnUsed_12
theorem oo_X1_isColumnUsed_13 {Γ : jΓ} {Q : jPost} (E : E_X1_isColumnUsed Γ Q) : jSA Γ Q 13 (o_iald) 1 := so_iald E.2.2.1 dX1_isColumnUsed_13
theorem oo_X1_isColumnUsed_14 {Γ : jΓ} {Q : jPost} (E : E_X1_isColumnUsed Γ Q) : jSA Γ Q 14 (o_ifeq 19) 3 := so_ifeq E.2.2.1 (by decide) dX1_isColumnUsed_14
theorem oo_X1_isColumnUsed_17 {Γ : jΓ} {Q : jPost} (E : E_X1_isColumnUsed Γ Q) : jSA Γ Q 17 (o_ic (1)) 1 := so_iconst E.2.2.1 rfl dX1_isColumnUsed_17
theorem oo_X1_isColumnUsed_18 {Γ : jΓ} {Q : jPost} (E : E_X1_isColumnUsed Γ Q) : jSA Γ Q 18 (o_iretz) 1 := so_iretz E.2.2.1 E.2.2.2 dX1_isColumnUsed_18
theorem oo_X1_isColumnUsed_19 {Γ : jΓ} {Q : jPost} (E : E_X1_isColumnUsed Γ Q) : jSA Γ Q 19 (o_iinc 2 (240)) 6 := so_iincW E.2.2.1 rfl (by rw [E.1]; decide) dX1_isColumnUsed_19
theorem oo_X1_isColumnUsed_25 {Γ : jΓ} {Q : jPost} (E : E_X1_isColumnUsed Γ Q) : jSA Γ Q 25 (o_goto 2) 3 := so_goto E.2.2.1 (by decide) dX1_isColumnUsed_25
theorem oo_X1_isColumnUsed_28 {Γ : jΓ} {Q : jPost} (E : E_X1_isColumnUsed Γ Q) : jSA Γ Q 28 (o_ic (0)) 1 := so_iconst E.2.2.1 rfl dX1_isColumnUsed_28
theorem oo_X1_isColumnUsed_29 {Γ : jΓ} {Q : jPost} (E : E_X1_isColumnUsed Γ Q) : jSA Γ Q 29 (o_iretz) 1 := so_iretz E.2.2.1 E.2.2.2 dX1_isColumnUsed_29
theorem ok_X1_isColumnUsed_0 {Γ : jΓ} {Q : jPost} (E : E_X1_isColumnUsed Γ Q) : jSS Γ Q 0 sg_X1_isColumnUsed_0 := ⟨oo_X1_isColumnUsed_0 E, oo_X1_isColumnUsed_1 E, trivial⟩
theorem ok_X1_isColumnUsed_2 {Γ : jΓ} {Q : jPost} (E : E_X1_isColumnUsed Γ Q) : jSS Γ Q 2 sg_X1_isColumnUsed_2 := ⟨oo_X1_isColumnUsed_2 E, oo_X1_isColumnUsed_3 E, oo_X1_isColumnUsed_5 E, oo_X1_isColumnUsed_8 E, oo_X1_isColumnUsed_9 E, oo_X1_isColumnUsed_12 E, oo_X1_isColumnUsed_13 E, oo_X1_isColumnUsed_14 E, oo_X1_isColumnUsed_17 E, oo_X1_isColumnUsed_18 E, trivial⟩
theorem ok_X1_isColumnUsed_19 {Γ : jΓ} {Q : jPost} (E : E_X1_isColumnUsed Γ Q) : jSS Γ Q 19 sg_X1_isColumnUsed_19 := ⟨oo_X1_isColumnUsed_19 E, oo_X1_isColumnUsed_25 E, trivial⟩
theorem ok_X1_isColumnUsed_28 {Γ : jΓ} {Q : jPost} (E : E_X1_isColumnUsed Γ Q) : jSS Γ Q 28 sg_X1_isColumnUsed_28 := ⟨oo_X1_isColumnUsed_28 E, oo_X1_isColumnUsed_29 E, trivial⟩
theorem okc_X1_isColumnUsed {Γ : jΓ} {Q : jPost} (E : E_X1_isColumnUsed Γ Q) (t : Nat) : jSS Γ Q t (cd_X1_isColumnUsed t) := by
  unfold cd_X1_isColumnUsed
  split
  · exact ok_X1_isColumnUsed_19 E
  · exact ok_X1_isColumnUsed_28 E
  · trivial
theorem m_X1_isColumnUsed_of (l : Launch) (hv : ∀ (G : jGt) (Q : jPost) (vs : List Value) (K : List jK) (h : jM), jHd cd_X1_isColumnUsed G Q sg_X1_isColumnUsed_0 0 → jHd cd_X1_isColumnUsed G Q sg_X1_isColumnUsed_2 2 → T_X1_isColumnUsed vs K h Q → (lg_sl vs).length ≤ 3 ∧ G 0 (jinit vs 3) [] K h 0 0) : jHolds vwCl l yX1_isColumnUsed wsX1_isColumnUsed 0 0 0 0 T_X1_isColumnUsed := by
  refine jMet (cc := cX1_isColumnUsed) (maxL := 3) (rt := (some .boolean)) (by decide +kernel) rfl (fun Γ Q vs K h hl hn hcl C hR hT => hv (jG Γ) Q vs K h ?_ ?_ hT)
  · exact fun n L st K h ce sl => jwp_ok (okc_X1_isColumnUsed ⟨hn, hcl, C, hR⟩) n sg_X1_isColumnUsed_0 0 (ok_X1_isColumnUsed_0 ⟨hn, hcl, C, hR⟩) L st K h ce sl
  · exact fun n L st K h ce sl => jwp_ok (okc_X1_isColumnUsed ⟨hn, hcl, C, hR⟩) n sg_X1_isColumnUsed_2 2 (ok_X1_isColumnUsed_2 ⟨hn, hcl, C, hR⟩) L st K h ce sl
set_option maxHeartbeats 4000000 in
set_option maxRecDepth 100000 in
theorem v_X1_isColumnUsed {G : jGt} {Q : jPost} {K : List jK} {h : jM} {c : Int32} (hT : jX K ∧ vp_in c 240 ∧ Q (some (.int (jb (jcu (h 2) c.toNatClampNeg)))) K h) (H0 : jHd cd_X1_isColumnUsed G Q sg_X1_isColumnUsed_0 0) (H2 : jHd cd_X1_isColumnUsed G Q sg_X1_isColumnUsed_2 2) : G 0 [some (.ref 1), some (.int c), none] [] K h 0 0 := by
  obtain ⟨hX, hc, hT⟩ := hT
  obtain ⟨k, hk, rfl⟩ := vp_in_of hc (by decide)
  rw [nI_clamp (by omega)] at hT
  have loop : ∀ n i, i + n = 240 → (∀ r, r < i → h 2 (k + 240 * r) = 0) → G 2 [some (.ref 1), some (.int (nI k)), some (.int (nI (k + 240 * i)))] [] K h 0 0 := by
    intro n
    induction n with
    | zero =>
      intro i hi hz
      have : i = 240 := by omega
      subst this
      refine H2 30 _ _ _ _ _ _ ?_
      simp only [sg_X1_isColumnUsed_0, sg_X1_isColumnUsed_2, sg_X1_isColumnUsed_19, sg_X1_isColumnUsed_28, cd_X1_isColumnUsed, jwp, o_ic, o_lc, o_iload, o_lload, o_aload, o_istore, o_lstore, o_astore, o_iinc, o_pop, o_dup, o_dup2, o_iadd, o_isub, o_imul, o_iand, o_ior, o_ishl, o_ladd, o_lmul, o_land, o_lor, o_idiv, o_irem, o_ineg, o_i2l, o_l2i, o_i2b, o_i2s, o_lushr, o_lshr, o_lshl, o_lcmp, o_ifeq, o_ifne, o_iflt, o_ifge, o_ifgt, o_ifle, o_iceq, o_icne, o_iclt, o_icge, o_icgt, o_icle, o_goto, o_tsw, jsw, o_lsw, jlk, o_getf, o_putf, o_putz, o_iald, o_zald, o_iast, o_zast, o_aald, o_alen, o_gets, o_zld, o_zlen, o_cpy, o_call, o_callV, o_ireti, o_iretz, o_lret, o_vret, jg, js, jkp, jkill, jsp, jcs, jfw, jov, Value.category, Option.toList_some, Option.toList_none, List.nil_append, List.cons_append, List.append_nil, Nat.reduceAdd, true_and, and_true, jb0, jb01, jb1, jem, true_or, or_true, Classical.not_not, forall_const, List.length_cons, List.length_nil, Nat.reduceLeDiff, Nat.zero_le, Nat.reduceLT, hX, kx_0_0 hX, kx_0_1 hX, kx_0_2 hX, kx_0_3 hX, kx_0_4 hX, kx_0_5 hX, kx_0_6 hX, kx_0_7 hX, kx_0_8 hX, kxo_0 hX, kx_1_0 hX, kx_1_1 hX, kx_1_2 hX, kx_1_3 hX, kxo_1 hX, kx_4_0 hX, kx_4_1 hX, kx_4_2 hX, kxo_4 hX, kx_19_0 hX, kx_19_1 hX, kx_19_2 hX, kx_19_3 hX, kx_19_4 hX, kxo_19 hX, kx_24_0 hX, kx_24_1 hX, kx_24_2 hX, kx_24_3 hX, kx_24_4 hX, kx_24_5 hX, kx_24_6 hX, kxo_24 hX, kxa_2 hX, kxa_3 hX, kxa_6 hX, kxa_7 hX, kxa_8 hX, kxa_9 hX, kxa_10 hX, kxa_18 hX, kxa_20 hX, kxa_21 hX, kxa_22 hX, kxa_23 hX, kxa_26 hX, kxa_27 hX, kxr_5 hX, kxr_11 hX, kxr_28 hX]
      rw [e57600]
      refine ⟨fun _ => ?_, fun c => absurd ((nI_leI (by omega) (by omega)).mpr (by omega)) c⟩
      rw [jb_neg (fun q => by obtain ⟨r, q1, q2⟩ := q; exact q2 (hz r q1))] at hT
      exact hT
    | succ n ih =>
      intro i hi hz
      refine H2 30 _ _ _ _ _ _ ?_
      simp only [sg_X1_isColumnUsed_0, sg_X1_isColumnUsed_2, sg_X1_isColumnUsed_19, sg_X1_isColumnUsed_28, cd_X1_isColumnUsed, jwp, o_ic, o_lc, o_iload, o_lload, o_aload, o_istore, o_lstore, o_astore, o_iinc, o_pop, o_dup, o_dup2, o_iadd, o_isub, o_imul, o_iand, o_ior, o_ishl, o_ladd, o_lmul, o_land, o_lor, o_idiv, o_irem, o_ineg, o_i2l, o_l2i, o_i2b, o_i2s, o_lushr, o_lshr, o_lshl, o_lcmp, o_ifeq, o_ifne, o_iflt, o_ifge, o_ifgt, o_ifle, o_iceq, o_icne, o_iclt, o_icge, o_icgt, o_icle, o_goto, o_tsw, jsw, o_lsw, jlk, o_getf, o_putf, o_putz, o_iald, o_zald, o_iast, o_zast, o_aald, o_alen, o_gets, o_zld, o_zlen, o_cpy, o_call, o_callV, o_ireti, o_iretz, o_lret, o_vret, jg, js, jkp, jkill, jsp, jcs, jfw, jov, Value.category, Option.toList_some, Option.toList_none, List.nil_append, List.cons_append, List.append_nil, Nat.reduceAdd, true_and, and_true, jb0, jb01, jb1, jem, true_or, or_true, Classical.not_not, forall_const, List.length_cons, List.length_nil, Nat.reduceLeDiff, Nat.zero_le, Nat.reduceLT, hX, kx_0_0 hX, kx_0_1 hX, kx_0_2 hX, kx_0_3 hX, kx_0_4 hX, kx_0_5 hX, kx_0_6 hX, kx_0_7 hX, kx_0_8 hX, kxo_0 hX, kx_1_0 hX, kx_1_1 hX, kx_1_2 hX, kx_1_3 hX, kxo_1 hX, kx_4_0 hX, kx_4_1 hX, kx_4_2 hX, kxo_4 hX, kx_19_0 hX, kx_19_1 hX, kx_19_2 hX, kx_19_3 hX, kx_19_4 hX, kxo_19 hX, kx_24_0 hX, kx_24_1 hX, kx_24_2 hX, kx_24_3 hX, kx_24_4 hX, kx_24_5 hX, kx_24_6 hX, kxo_24 hX, kxa_2 hX, kxa_3 hX, kxa_6 hX, kxa_7 hX, kxa_8 hX, kxa_9 hX, kxa_10 hX, kxa_18 hX, kxa_20 hX, kxa_21 hX, kxa_22 hX, kxa_23 hX, kxa_26 hX, kxa_27 hX, kxr_5 hX, kxr_11 hX, kxr_28 hX]
      rw [e57600]
      refine ⟨fun c => absurd ((nI_leI (by omega) (by omega)).mp c) (by omega), fun _ => ⟨vp_in_nI (by omega) (by omega), fun c => ?_, fun c => ?_⟩⟩
      · rw [nI_clamp (by omega)] at c
        have h2 := ih (i + 1) (by omega) (fun r hr => by
          by_cases e : r = i
          · rw [e]; exact c
          · exact hz r (by omega))
        rw [e240, nI_add]
        exact h2
      · rw [nI_clamp (by omega)] at c
        rw [jb_pos ⟨i, by omega, c⟩] at hT
        exact hT
  refine H0 30 _ _ _ _ _ _ ?_
  simp only [sg_X1_isColumnUsed_0, sg_X1_isColumnUsed_2, sg_X1_isColumnUsed_19, sg_X1_isColumnUsed_28, cd_X1_isColumnUsed, jwp, o_ic, o_lc, o_iload, o_lload, o_aload, o_istore, o_lstore, o_astore, o_iinc, o_pop, o_dup, o_dup2, o_iadd, o_isub, o_imul, o_iand, o_ior, o_ishl, o_ladd, o_lmul, o_land, o_lor, o_idiv, o_irem, o_ineg, o_i2l, o_l2i, o_i2b, o_i2s, o_lushr, o_lshr, o_lshl, o_lcmp, o_ifeq, o_ifne, o_iflt, o_ifge, o_ifgt, o_ifle, o_iceq, o_icne, o_iclt, o_icge, o_icgt, o_icle, o_goto, o_tsw, jsw, o_lsw, jlk, o_getf, o_putf, o_putz, o_iald, o_zald, o_iast, o_zast, o_aald, o_alen, o_gets, o_zld, o_zlen, o_cpy, o_call, o_callV, o_ireti, o_iretz, o_lret, o_vret, jg, js, jkp, jkill, jsp, jcs, jfw, jov, Value.category, Option.toList_some, Option.toList_none, List.nil_append, List.cons_append, List.append_nil, Nat.reduceAdd, true_and, and_true, jb0, jb01, jb1, jem, true_or, or_true, Classical.not_not, forall_const, List.length_cons, List.length_nil, Nat.reduceLeDiff, Nat.zero_le, Nat.reduceLT, hX, kx_0_0 hX, kx_0_1 hX, kx_0_2 hX, kx_0_3 hX, kx_0_4 hX, kx_0_5 hX, kx_0_6 hX, kx_0_7 hX, kx_0_8 hX, kxo_0 hX, kx_1_0 hX, kx_1_1 hX, kx_1_2 hX, kx_1_3 hX, kxo_1 hX, kx_4_0 hX, kx_4_1 hX, kx_4_2 hX, kxo_4 hX, kx_19_0 hX, kx_19_1 hX, kx_19_2 hX, kx_19_3 hX, kx_19_4 hX, kxo_19 hX, kx_24_0 hX, kx_24_1 hX, kx_24_2 hX, kx_24_3 hX, kx_24_4 hX, kx_24_5 hX, kx_24_6 hX, kxo_24 hX, kxa_2 hX, kxa_3 hX, kxa_6 hX, kxa_7 hX, kxa_8 hX, kxa_9 hX, kxa_10 hX, kxa_18 hX, kxa_20 hX, kxa_21 hX, kxa_22 hX, kxa_23 hX, kxa_26 hX, kxa_27 hX, kxr_5 hX, kxr_11 hX, kxr_28 hX]
  exact loop 240 0 (by omega) (fun r hr => by omega)
theorem m_X1_isColumnUsed (l : Launch) : jHolds vwCl l yX1_isColumnUsed wsX1_isColumnUsed 0 0 0 0 T_X1_isColumnUsed := by
  refine m_X1_isColumnUsed_of l (fun G Q vs K h H0 H2 hT => ?_)
  unfold T_X1_isColumnUsed at hT
  split at hT
  · obtain ⟨rfl, hT⟩ := hT
    exact ⟨Nat.le_of_ble_eq_true rfl, v_X1_isColumnUsed hT H0 H2⟩
  · exact hT.elim

/-! X1_leastX -/
/-- the least number below N with p, or -1 -/
def jleast (p : Nat → Prop) (N : Nat) (r : Int32) : Prop := (∃ k, k < N ∧ p k ∧ (∀ j, j < k → ¬ p j) ∧ r = nI k) ∨ ((∀ j, j < N → ¬ p j) ∧ r = -1)
/-- the greatest -/
def jmost (p : Nat → Prop) (N : Nat) (r : Int32) : Prop := (∃ k, k < N ∧ p k ∧ (∀ j, k < j → j < N → ¬ p j) ∧ r = nI k) ∨ ((∀ j, j < N → ¬ p j) ∧ r = -1)
def T_X1_leastX : jT := fun vs K h Q => match vs with
  | [.ref r0] => r0 = 1 ∧ (jX K ∧ ∀ r, jleast (jcu (h 2)) 240 r → Q (some (.int r)) K h)
  | _ => False
def sg_X1_leastX_0 : jS := [(o_ic (0), 1), (o_istore 1, 1)]
def sg_X1_leastX_2 : jS := [(o_iload 1, 1), (o_ic (240), 3), (o_icge 25, 3), (o_aload 0, 1), (o_iload 1, 1), (o_callV 2 1 T_X1_isColumnUsed, 3), (o_ifeq 19, 3), (o_iload 1, 1), (o_ireti, 1)]
def sg_X1_leastX_19 : jS := [(o_iinc 1 (1), 3), (o_goto 2, 3)]
def sg_X1_leastX_25 : jS := [(o_ic (-1), 1), (o_ireti, 1)]
def cd_X1_leastX : Nat → jS := fun t => match t with
  | 19 => sg_X1_leastX_19
  | 25 => sg_X1_leastX_25
  | _ => []
def E_X1_leastX (Γ : jΓ) (Q : jPost) : Prop := Γ.2.2.2.2.2.2.2.2.2.2.1 = 2 ∧ Γ.2.2.2.2.2.2.2.2.2.2.2.1 = vwCl ∧ jC Γ cX1_leastX RX1 "leastX" (some .int) wsX1_leastX 1 22 0 0 ∧ jR Γ Q 0 0
theorem oo_X1_leastX_0 {Γ : jΓ} {Q : jPost} (E : E_X1_leastX Γ Q) : jSA Γ Q 0 (o_ic (0)) 1 := so_iconst E.2.2.1 rfl dX1_leastX_0
theorem oo_X1_leastX_1 {Γ : jΓ} {Q : jPost} (E : E_X1_leastX Γ Q) : jSA Γ Q 1 (o_istore 1) 1 := so_istore_n E.2.2.1 rfl (by rw [E.1]; decide) dX1_leastX_1
theorem oo_X1_leastX_2 {Γ : jΓ} {Q : jPost} (E : E_X1_leastX Γ Q) : jSA Γ Q 2 (o_iload 1) 1 := so_iload_n E.2.2.1 rfl dX1_leastX_2
theorem oo_X1_leastX_3 {Γ : jΓ} {Q : jPost} (E : E_X1_leastX Γ Q) : jSA Γ Q 3 (o_ic (240)) 3 := so_sipush E.2.2.1 rfl dX1_leastX_3
theorem oo_X1_leastX_6 {Γ : jΓ} {Q : jPost} (E : E_X1_leastX Γ Q) : jSA Γ Q 6 (o_icge 25) 3 := so_icge E.2.2.1 (by decide) dX1_leastX_6
theorem oo_X1_leastX_9 {Γ : jΓ} {Q : jPost} (E : E_X1_leastX Γ Q) : jSA Γ Q 9 (o_aload 0) 1 := so_aload_n E.2.2.1 rfl dX1_leastX_9
theorem oo_X1_leastX_10 {Γ : jΓ} {Q : jPost} (E : E_X1_leastX Γ Q) : jSA Γ Q 10 (o_iload 1) 1 := so_iload_n E.2.2.1 rfl dX1_leastX_10
theorem oo_X1_leastX_11 {Γ : jΓ} {Q : jPost} (E : E_X1_leastX Γ Q) : jSA Γ Q 11 (o_callV 2 1 T_X1_isColumnUsed) 3 := so_callV E.2.2.1 (ci := 1) (by rw [E.2.1]; rfl) gX1_leastX_X1_isColumnUsed (by decide +kernel) rfl (by rw [E.2.1]; exact m_X1_isColumnUsed _) (by decide) (by decide) dX1_leastX_11
theorem oo_X1_leastX_14 {Γ : jΓ} {Q : jPost} (E : E_X1_leastX Γ Q) : jSA Γ Q 14 (o_ifeq 19) 3 := so_ifeq E.2.2.1 (by decide) dX1_leastX_14
theorem oo_X1_leastX_17 {Γ : jΓ} {Q : jPost} (E : E_X1_leastX Γ Q) : jSA Γ Q 17 (o_iload 1) 1 := so_iload_n E.2.2.1 rfl dX1_leastX_17
theorem oo_X1_leastX_18 {Γ : jΓ} {Q : jPost} (E : E_X1_leastX Γ Q) : jSA Γ Q 18 (o_ireti) 1 := so_ireti E.2.2.1 E.2.2.2 dX1_leastX_18
theorem oo_X1_leastX_19 {Γ : jΓ} {Q : jPost} (E : E_X1_leastX Γ Q) : jSA Γ Q 19 (o_iinc 1 (1)) 3 := so_iinc E.2.2.1 rfl (by rw [E.1]; decide) dX1_leastX_19
theorem oo_X1_leastX_22 {Γ : jΓ} {Q : jPost} (E : E_X1_leastX Γ Q) : jSA Γ Q 22 (o_goto 2) 3 := so_goto E.2.2.1 (by decide) dX1_leastX_22
theorem oo_X1_leastX_25 {Γ : jΓ} {Q : jPost} (E : E_X1_leastX Γ Q) : jSA Γ Q 25 (o_ic (-1)) 1 := so_iconst E.2.2.1 rfl dX1_leastX_25
theorem oo_X1_leastX_26 {Γ : jΓ} {Q : jPost} (E : E_X1_leastX Γ Q) : jSA Γ Q 26 (o_ireti) 1 := so_ireti E.2.2.1 E.2.2.2 dX1_leastX_26
theorem ok_X1_leastX_0 {Γ : jΓ} {Q : jPost} (E : E_X1_leastX Γ Q) : jSS Γ Q 0 sg_X1_leastX_0 := ⟨oo_X1_leastX_0 E, oo_X1_leastX_1 E, trivial⟩
theorem ok_X1_leastX_2 {Γ : jΓ} {Q : jPost} (E : E_X1_leastX Γ Q) : jSS Γ Q 2 sg_X1_leastX_2 := ⟨oo_X1_leastX_2 E, oo_X1_leastX_3 E, oo_X1_leastX_6 E, oo_X1_leastX_9 E, oo_X1_leastX_10 E, oo_X1_leastX_11 E, oo_X1_leastX_14 E, oo_X1_leastX_17 E, oo_X1_leastX_18 E, trivial⟩
theorem ok_X1_leastX_19 {Γ : jΓ} {Q : jPost} (E : E_X1_leastX Γ Q) : jSS Γ Q 19 sg_X1_leastX_19 := ⟨oo_X1_leastX_19 E, oo_X1_leastX_22 E, trivial⟩
theorem ok_X1_leastX_25 {Γ : jΓ} {Q : jPost} (E : E_X1_leastX Γ Q) : jSS Γ Q 25 sg_X1_leastX_25 := ⟨oo_X1_leastX_25 E, oo_X1_leastX_26 E, trivial⟩
theorem okc_X1_leastX {Γ : jΓ} {Q : jPost} (E : E_X1_leastX Γ Q) (t : Nat) : jSS Γ Q t (cd_X1_leastX t) := by
  unfold cd_X1_leastX
  split
  · exact ok_X1_leastX_19 E
  · exact ok_X1_leastX_25 E
  · trivial
theorem m_X1_leastX_of (l : Launch) (hv : ∀ (G : jGt) (Q : jPost) (vs : List Value) (K : List jK) (h : jM), jHd cd_X1_leastX G Q sg_X1_leastX_0 0 → jHd cd_X1_leastX G Q sg_X1_leastX_2 2 → T_X1_leastX vs K h Q → (lg_sl vs).length ≤ 2 ∧ G 0 (jinit vs 2) [] K h 0 0) : jHolds vwCl l yX1_leastX wsX1_leastX 1 22 0 0 T_X1_leastX := by
  refine jMet (cc := cX1_leastX) (maxL := 2) (rt := (some .int)) (by decide +kernel) rfl (fun Γ Q vs K h hl hn hcl C hR hT => hv (jG Γ) Q vs K h ?_ ?_ hT)
  · exact fun n L st K h ce sl => jwp_ok (okc_X1_leastX ⟨hn, hcl, C, hR⟩) n sg_X1_leastX_0 0 (ok_X1_leastX_0 ⟨hn, hcl, C, hR⟩) L st K h ce sl
  · exact fun n L st K h ce sl => jwp_ok (okc_X1_leastX ⟨hn, hcl, C, hR⟩) n sg_X1_leastX_2 2 (ok_X1_leastX_2 ⟨hn, hcl, C, hR⟩) L st K h ce sl
set_option maxHeartbeats 4000000 in
set_option maxRecDepth 100000 in
theorem v_X1_leastX {G : jGt} {Q : jPost} {K : List jK} {h : jM}  (hT : jX K ∧ ∀ r, jleast (jcu (h 2)) 240 r → Q (some (.int r)) K h) (H0 : jHd cd_X1_leastX G Q sg_X1_leastX_0 0) (H2 : jHd cd_X1_leastX G Q sg_X1_leastX_2 2) : G 0 [some (.ref 1), none] [] K h 0 0 := by
  obtain ⟨hX, hT⟩ := hT
  have loop : ∀ n i, i + n = 240 → (∀ r, r < i → ¬ jcu (h 2) r) → G 2 [some (.ref 1), some (.int (nI i))] [] K h 0 0 := by
    intro n
    induction n with
    | zero =>
      intro i hi hz
      have : i = 240 := by omega
      subst this
      refine H2 30 _ _ _ _ _ _ ?_
      simp only [sg_X1_leastX_0, sg_X1_leastX_2, sg_X1_leastX_19, sg_X1_leastX_25, cd_X1_leastX, jwp, o_ic, o_lc, o_iload, o_lload, o_aload, o_istore, o_lstore, o_astore, o_iinc, o_pop, o_dup, o_dup2, o_iadd, o_isub, o_imul, o_iand, o_ior, o_ishl, o_ladd, o_lmul, o_land, o_lor, o_idiv, o_irem, o_ineg, o_i2l, o_l2i, o_i2b, o_i2s, o_lushr, o_lshr, o_lshl, o_lcmp, o_ifeq, o_ifne, o_iflt, o_ifge, o_ifgt, o_ifle, o_iceq, o_icne, o_iclt, o_icge, o_icgt, o_icle, o_goto, o_tsw, jsw, o_lsw, jlk, o_getf, o_putf, o_putz, o_iald, o_zald, o_iast, o_zast, o_aald, o_alen, o_gets, o_zld, o_zlen, o_cpy, o_call, o_callV, o_ireti, o_iretz, o_lret, o_vret, jg, js, jkp, jkill, jsp, jcs, jfw, jov, Value.category, Option.toList_some, Option.toList_none, List.nil_append, List.cons_append, List.append_nil, Nat.reduceAdd, true_and, and_true, jb0, jb01, jb1, jem, true_or, or_true, Classical.not_not, forall_const, List.length_cons, List.length_nil, Nat.reduceLeDiff, Nat.zero_le, Nat.reduceLT, hX, kx_0_0 hX, kx_0_1 hX, kx_0_2 hX, kx_0_3 hX, kx_0_4 hX, kx_0_5 hX, kx_0_6 hX, kx_0_7 hX, kx_0_8 hX, kxo_0 hX, kx_1_0 hX, kx_1_1 hX, kx_1_2 hX, kx_1_3 hX, kxo_1 hX, kx_4_0 hX, kx_4_1 hX, kx_4_2 hX, kxo_4 hX, kx_19_0 hX, kx_19_1 hX, kx_19_2 hX, kx_19_3 hX, kx_19_4 hX, kxo_19 hX, kx_24_0 hX, kx_24_1 hX, kx_24_2 hX, kx_24_3 hX, kx_24_4 hX, kx_24_5 hX, kx_24_6 hX, kxo_24 hX, kxa_2 hX, kxa_3 hX, kxa_6 hX, kxa_7 hX, kxa_8 hX, kxa_9 hX, kxa_10 hX, kxa_18 hX, kxa_20 hX, kxa_21 hX, kxa_22 hX, kxa_23 hX, kxa_26 hX, kxa_27 hX, kxr_5 hX, kxr_11 hX, kxr_28 hX, T_X1_isColumnUsed]
      rw [e240]
      exact ⟨fun _ => hT _ (Or.inr ⟨hz, rfl⟩), fun c => absurd (Int32.le_refl _) c⟩
    | succ n ih =>
      intro i hi hz
      refine H2 30 _ _ _ _ _ _ ?_
      simp only [sg_X1_leastX_0, sg_X1_leastX_2, sg_X1_leastX_19, sg_X1_leastX_25, cd_X1_leastX, jwp, o_ic, o_lc, o_iload, o_lload, o_aload, o_istore, o_lstore, o_astore, o_iinc, o_pop, o_dup, o_dup2, o_iadd, o_isub, o_imul, o_iand, o_ior, o_ishl, o_ladd, o_lmul, o_land, o_lor, o_idiv, o_irem, o_ineg, o_i2l, o_l2i, o_i2b, o_i2s, o_lushr, o_lshr, o_lshl, o_lcmp, o_ifeq, o_ifne, o_iflt, o_ifge, o_ifgt, o_ifle, o_iceq, o_icne, o_iclt, o_icge, o_icgt, o_icle, o_goto, o_tsw, jsw, o_lsw, jlk, o_getf, o_putf, o_putz, o_iald, o_zald, o_iast, o_zast, o_aald, o_alen, o_gets, o_zld, o_zlen, o_cpy, o_call, o_callV, o_ireti, o_iretz, o_lret, o_vret, jg, js, jkp, jkill, jsp, jcs, jfw, jov, Value.category, Option.toList_some, Option.toList_none, List.nil_append, List.cons_append, List.append_nil, Nat.reduceAdd, true_and, and_true, jb0, jb01, jb1, jem, true_or, or_true, Classical.not_not, forall_const, List.length_cons, List.length_nil, Nat.reduceLeDiff, Nat.zero_le, Nat.reduceLT, hX, kx_0_0 hX, kx_0_1 hX, kx_0_2 hX, kx_0_3 hX, kx_0_4 hX, kx_0_5 hX, kx_0_6 hX, kx_0_7 hX, kx_0_8 hX, kxo_0 hX, kx_1_0 hX, kx_1_1 hX, kx_1_2 hX, kx_1_3 hX, kxo_1 hX, kx_4_0 hX, kx_4_1 hX, kx_4_2 hX, kxo_4 hX, kx_19_0 hX, kx_19_1 hX, kx_19_2 hX, kx_19_3 hX, kx_19_4 hX, kxo_19 hX, kx_24_0 hX, kx_24_1 hX, kx_24_2 hX, kx_24_3 hX, kx_24_4 hX, kx_24_5 hX, kx_24_6 hX, kxo_24 hX, kxa_2 hX, kxa_3 hX, kxa_6 hX, kxa_7 hX, kxa_8 hX, kxa_9 hX, kxa_10 hX, kxa_18 hX, kxa_20 hX, kxa_21 hX, kxa_22 hX, kxa_23 hX, kxa_26 hX, kxa_27 hX, kxr_5 hX, kxr_11 hX, kxr_28 hX, T_X1_isColumnUsed]
      rw [e240]
      refine ⟨fun c => absurd ((nI_leI (by omega) (by omega)).mp c) (by omega), fun _ => ⟨vp_in_nI (by omega) (by omega), fun c => ?_, fun c => ?_⟩⟩
      · rw [nI_clamp (by omega)] at c
        have h2 := ih (i + 1) (by omega) (fun r hr => by
          by_cases e : r = i
          · rw [e]; exact c
          · exact hz r (by omega))
        rw [nI_1]
        exact h2
      · rw [nI_clamp (by omega)] at c
        exact hT _ (Or.inl ⟨i, by omega, c, hz, rfl⟩)
  refine H0 30 _ _ _ _ _ _ ?_
  simp only [sg_X1_leastX_0, sg_X1_leastX_2, sg_X1_leastX_19, sg_X1_leastX_25, cd_X1_leastX, jwp, o_ic, o_lc, o_iload, o_lload, o_aload, o_istore, o_lstore, o_astore, o_iinc, o_pop, o_dup, o_dup2, o_iadd, o_isub, o_imul, o_iand, o_ior, o_ishl, o_ladd, o_lmul, o_land, o_lor, o_idiv, o_irem, o_ineg, o_i2l, o_l2i, o_i2b, o_i2s, o_lushr, o_lshr, o_lshl, o_lcmp, o_ifeq, o_ifne, o_iflt, o_ifge, o_ifgt, o_ifle, o_iceq, o_icne, o_iclt, o_icge, o_icgt, o_icle, o_goto, o_tsw, jsw, o_lsw, jlk, o_getf, o_putf, o_putz, o_iald, o_zald, o_iast, o_zast, o_aald, o_alen, o_gets, o_zld, o_zlen, o_cpy, o_call, o_callV, o_ireti, o_iretz, o_lret, o_vret, jg, js, jkp, jkill, jsp, jcs, jfw, jov, Value.category, Option.toList_some, Option.toList_none, List.nil_append, List.cons_append, List.append_nil, Nat.reduceAdd, true_and, and_true, jb0, jb01, jb1, jem, true_or, or_true, Classical.not_not, forall_const, List.length_cons, List.length_nil, Nat.reduceLeDiff, Nat.zero_le, Nat.reduceLT, hX, kx_0_0 hX, kx_0_1 hX, kx_0_2 hX, kx_0_3 hX, kx_0_4 hX, kx_0_5 hX, kx_0_6 hX, kx_0_7 hX, kx_0_8 hX, kxo_0 hX, kx_1_0 hX, kx_1_1 hX, kx_1_2 hX, kx_1_3 hX, kxo_1 hX, kx_4_0 hX, kx_4_1 hX, kx_4_2 hX, kxo_4 hX, kx_19_0 hX, kx_19_1 hX, kx_19_2 hX, kx_19_3 hX, kx_19_4 hX, kxo_19 hX, kx_24_0 hX, kx_24_1 hX, kx_24_2 hX, kx_24_3 hX, kx_24_4 hX, kx_24_5 hX, kx_24_6 hX, kxo_24 hX, kxa_2 hX, kxa_3 hX, kxa_6 hX, kxa_7 hX, kxa_8 hX, kxa_9 hX, kxa_10 hX, kxa_18 hX, kxa_20 hX, kxa_21 hX, kxa_22 hX, kxa_23 hX, kxa_26 hX, kxa_27 hX, kxr_5 hX, kxr_11 hX, kxr_28 hX]
  exact loop 240 0 (by omega) (fun r hr => by omega)
theorem m_X1_leastX (l : Launch) : jHolds vwCl l yX1_leastX wsX1_leastX 1 22 0 0 T_X1_leastX := by
  refine m_X1_leastX_of l (fun G Q vs K h H0 H2 hT => ?_)
  unfold T_X1_leastX at hT
  split at hT
  · obtain ⟨rfl, hT⟩ := hT
    exact ⟨Nat.le_of_ble_eq_true rfl, v_X1_leastX hT H0 H2⟩
  · exact hT.elim

/-! X1_greatestX -/
def T_X1_greatestX : jT := fun vs K h Q => match vs with
  | [.ref r0] => r0 = 1 ∧ (jX K ∧ ∀ r, jmost (jcu (h 2)) 240 r → Q (some (.int r)) K h)
  | _ => False
def sg_X1_greatestX_0 : jS := [(o_ic (239), 3), (o_istore 1, 1)]
def sg_X1_greatestX_4 : jS := [(o_iload 1, 1), (o_iflt 24, 3), (o_aload 0, 1), (o_iload 1, 1), (o_callV 2 1 T_X1_isColumnUsed, 3), (o_ifeq 18, 3), (o_iload 1, 1), (o_ireti, 1)]
def sg_X1_greatestX_18 : jS := [(o_iinc 1 (-1), 3), (o_goto 4, 3)]
def sg_X1_greatestX_24 : jS := [(o_ic (-1), 1), (o_ireti, 1)]
def cd_X1_greatestX : Nat → jS := fun t => match t with
  | 18 => sg_X1_greatestX_18
  | 24 => sg_X1_greatestX_24
  | _ => []
def E_X1_greatestX (Γ : jΓ) (Q : jPost) : Prop := Γ.2.2.2.2.2.2.2.2.2.2.1 = 2 ∧ Γ.2.2.2.2.2.2.2.2.2.2.2.1 = vwCl ∧ jC Γ cX1_greatestX RX1 "greatestX" (some .int) wsX1_greatestX 1 22 0 0 ∧ jR Γ Q 0 0
theorem oo_X1_greatestX_0 {Γ : jΓ} {Q : jPost} (E : E_X1_greatestX Γ Q) : jSA Γ Q 0 (o_ic (239)) 3 := so_sipush E.2.2.1 rfl dX1_greatestX_0
theorem oo_X1_greatestX_3 {Γ : jΓ} {Q : jPost} (E : E_X1_greatestX Γ Q) : jSA Γ Q 3 (o_istore 1) 1 := so_istore_n E.2.2.1 rfl (by rw [E.1]; decide) dX1_greatestX_3
theorem oo_X1_greatestX_4 {Γ : jΓ} {Q : jPost} (E : E_X1_greatestX Γ Q) : jSA Γ Q 4 (o_iload 1) 1 := so_iload_n E.2.2.1 rfl dX1_greatestX_4
theorem oo_X1_greatestX_5 {Γ : jΓ} {Q : jPost} (E : E_X1_greatestX Γ Q) : jSA Γ Q 5 (o_iflt 24) 3 := so_iflt E.2.2.1 (by decide) dX1_greatestX_5
theorem oo_X1_greatestX_8 {Γ : jΓ} {Q : jPost} (E : E_X1_greatestX Γ Q) : jSA Γ Q 8 (o_aload 0) 1 := so_aload_n E.2.2.1 rfl dX1_greatestX_8
theorem oo_X1_greatestX_9 {Γ : jΓ} {Q : jPost} (E : E_X1_greatestX Γ Q) : jSA Γ Q 9 (o_iload 1) 1 := so_iload_n E.2.2.1 rfl dX1_greatestX_9
theorem oo_X1_greatestX_10 {Γ : jΓ} {Q : jPost} (E : E_X1_greatestX Γ Q) : jSA Γ Q 10 (o_callV 2 1 T_X1_isColumnUsed) 3 := so_callV E.2.2.1 (ci := 1) (by rw [E.2.1]; rfl) gX1_greatestX_X1_isColumnUsed (by decide +kernel) rfl (by rw [E.2.1]; exact m_X1_isColumnUsed _) (by decide) (by decide) dX1_greatestX_10
theorem oo_X1_greatestX_13 {Γ : jΓ} {Q : jPost} (E : E_X1_greatestX Γ Q) : jSA Γ Q 13 (o_ifeq 18) 3 := so_ifeq E.2.2.1 (by decide) dX1_greatestX_13
theorem oo_X1_greatestX_16 {Γ : jΓ} {Q : jPost} (E : E_X1_greatestX Γ Q) : jSA Γ Q 16 (o_iload 1) 1 := so_iload_n E.2.2.1 rfl dX1_greatestX_16
theorem oo_X1_greatestX_17 {Γ : jΓ} {Q : jPost} (E : E_X1_greatestX Γ Q) : jSA Γ Q 17 (o_ireti) 1 := so_ireti E.2.2.1 E.2.2.2 dX1_greatestX_17
theorem oo_X1_greatestX_18 {Γ : jΓ} {Q : jPost} (E : E_X1_greatestX Γ Q) : jSA Γ Q 18 (o_iinc 1 (-1)) 3 := so_iinc E.2.2.1 rfl (by rw [E.1]; decide) dX1_greatestX_18
theorem oo_X1_greatestX_21 {Γ : jΓ} {Q : jPost} (E : E_X1_greatestX Γ Q) : jSA Γ Q 21 (o_goto 4) 3 := so_goto E.2.2.1 (by decide) dX1_greatestX_21
theorem oo_X1_greatestX_24 {Γ : jΓ} {Q : jPost} (E : E_X1_greatestX Γ Q) : jSA Γ Q 24 (o_ic (-1)) 1 := so_iconst E.2.2.1 rfl dX1_greatestX_24
theorem oo_X1_greatestX_25 {Γ : jΓ} {Q : jPost} (E : E_X1_greatestX Γ Q) : jSA Γ Q 25 (o_ireti) 1 := so_ireti E.2.2.1 E.2.2.2 dX1_greatestX_25
theorem ok_X1_greatestX_0 {Γ : jΓ} {Q : jPost} (E : E_X1_greatestX Γ Q) : jSS Γ Q 0 sg_X1_greatestX_0 := ⟨oo_X1_greatestX_0 E, oo_X1_greatestX_3 E, trivial⟩
theorem ok_X1_greatestX_4 {Γ : jΓ} {Q : jPost} (E : E_X1_greatestX Γ Q) : jSS Γ Q 4 sg_X1_greatestX_4 := ⟨oo_X1_greatestX_4 E, oo_X1_greatestX_5 E, oo_X1_greatestX_8 E, oo_X1_greatestX_9 E, oo_X1_greatestX_10 E, oo_X1_greatestX_13 E, oo_X1_greatestX_16 E, oo_X1_greatestX_17 E, trivial⟩
theorem ok_X1_greatestX_18 {Γ : jΓ} {Q : jPost} (E : E_X1_greatestX Γ Q) : jSS Γ Q 18 sg_X1_greatestX_18 := ⟨oo_X1_greatestX_18 E, oo_X1_greatestX_21 E, trivial⟩
theorem ok_X1_greatestX_24 {Γ : jΓ} {Q : jPost} (E : E_X1_greatestX Γ Q) : jSS Γ Q 24 sg_X1_greatestX_24 := ⟨oo_X1_greatestX_24 E, oo_X1_greatestX_25 E, trivial⟩
theorem okc_X1_greatestX {Γ : jΓ} {Q : jPost} (E : E_X1_greatestX Γ Q) (t : Nat) : jSS Γ Q t (cd_X1_greatestX t) := by
  unfold cd_X1_greatestX
  split
  · exact ok_X1_greatestX_18 E
  · exact ok_X1_greatestX_24 E
  · trivial
theorem m_X1_greatestX_of (l : Launch) (hv : ∀ (G : jGt) (Q : jPost) (vs : List Value) (K : List jK) (h : jM), jHd cd_X1_greatestX G Q sg_X1_greatestX_0 0 → jHd cd_X1_greatestX G Q sg_X1_greatestX_4 4 → T_X1_greatestX vs K h Q → (lg_sl vs).length ≤ 2 ∧ G 0 (jinit vs 2) [] K h 0 0) : jHolds vwCl l yX1_greatestX wsX1_greatestX 1 22 0 0 T_X1_greatestX := by
  refine jMet (cc := cX1_greatestX) (maxL := 2) (rt := (some .int)) (by decide +kernel) rfl (fun Γ Q vs K h hl hn hcl C hR hT => hv (jG Γ) Q vs K h ?_ ?_ hT)
  · exact fun n L st K h ce sl => jwp_ok (okc_X1_greatestX ⟨hn, hcl, C, hR⟩) n sg_X1_greatestX_0 0 (ok_X1_greatestX_0 ⟨hn, hcl, C, hR⟩) L st K h ce sl
  · exact fun n L st K h ce sl => jwp_ok (okc_X1_greatestX ⟨hn, hcl, C, hR⟩) n sg_X1_greatestX_4 4 (ok_X1_greatestX_4 ⟨hn, hcl, C, hR⟩) L st K h ce sl
set_option maxHeartbeats 4000000 in
set_option maxRecDepth 100000 in
theorem v_X1_greatestX {G : jGt} {Q : jPost} {K : List jK} {h : jM}  (hT : jX K ∧ ∀ r, jmost (jcu (h 2)) 240 r → Q (some (.int r)) K h) (H0 : jHd cd_X1_greatestX G Q sg_X1_greatestX_0 0) (H4 : jHd cd_X1_greatestX G Q sg_X1_greatestX_4 4) : G 0 [some (.ref 1), none] [] K h 0 0 := by
  obtain ⟨hX, hT⟩ := hT
  have loop : ∀ i, i ≤ 240 → (∀ r, i ≤ r → r < 240 → ¬ jcu (h 2) r) → G 4 [some (.ref 1), some (.int (nI i + -1))] [] K h 0 0 := by
    intro i
    induction i with
    | zero =>
      intro hi hz
      refine H4 30 _ _ _ _ _ _ ?_
      simp only [sg_X1_greatestX_0, sg_X1_greatestX_4, sg_X1_greatestX_18, sg_X1_greatestX_24, cd_X1_greatestX, jwp, o_ic, o_lc, o_iload, o_lload, o_aload, o_istore, o_lstore, o_astore, o_iinc, o_pop, o_dup, o_dup2, o_iadd, o_isub, o_imul, o_iand, o_ior, o_ishl, o_ladd, o_lmul, o_land, o_lor, o_idiv, o_irem, o_ineg, o_i2l, o_l2i, o_i2b, o_i2s, o_lushr, o_lshr, o_lshl, o_lcmp, o_ifeq, o_ifne, o_iflt, o_ifge, o_ifgt, o_ifle, o_iceq, o_icne, o_iclt, o_icge, o_icgt, o_icle, o_goto, o_tsw, jsw, o_lsw, jlk, o_getf, o_putf, o_putz, o_iald, o_zald, o_iast, o_zast, o_aald, o_alen, o_gets, o_zld, o_zlen, o_cpy, o_call, o_callV, o_ireti, o_iretz, o_lret, o_vret, jg, js, jkp, jkill, jsp, jcs, jfw, jov, Value.category, Option.toList_some, Option.toList_none, List.nil_append, List.cons_append, List.append_nil, Nat.reduceAdd, true_and, and_true, jb0, jb01, jb1, jem, true_or, or_true, Classical.not_not, forall_const, List.length_cons, List.length_nil, Nat.reduceLeDiff, Nat.zero_le, Nat.reduceLT, hX, kx_0_0 hX, kx_0_1 hX, kx_0_2 hX, kx_0_3 hX, kx_0_4 hX, kx_0_5 hX, kx_0_6 hX, kx_0_7 hX, kx_0_8 hX, kxo_0 hX, kx_1_0 hX, kx_1_1 hX, kx_1_2 hX, kx_1_3 hX, kxo_1 hX, kx_4_0 hX, kx_4_1 hX, kx_4_2 hX, kxo_4 hX, kx_19_0 hX, kx_19_1 hX, kx_19_2 hX, kx_19_3 hX, kx_19_4 hX, kxo_19 hX, kx_24_0 hX, kx_24_1 hX, kx_24_2 hX, kx_24_3 hX, kx_24_4 hX, kx_24_5 hX, kx_24_6 hX, kxo_24 hX, kxa_2 hX, kxa_3 hX, kxa_6 hX, kxa_7 hX, kxa_8 hX, kxa_9 hX, kxa_10 hX, kxa_18 hX, kxa_20 hX, kxa_21 hX, kxa_22 hX, kxa_23 hX, kxa_26 hX, kxa_27 hX, kxr_5 hX, kxr_11 hX, kxr_28 hX, T_X1_isColumnUsed]
      rw [nI_neg1]
      exact ⟨fun _ => hT _ (Or.inr ⟨fun r hr => hz r (by omega) hr, rfl⟩), fun c => absurd (by decide) c⟩
    | succ i ih =>
      intro hi hz
      refine H4 30 _ _ _ _ _ _ ?_
      simp only [sg_X1_greatestX_0, sg_X1_greatestX_4, sg_X1_greatestX_18, sg_X1_greatestX_24, cd_X1_greatestX, jwp, o_ic, o_lc, o_iload, o_lload, o_aload, o_istore, o_lstore, o_astore, o_iinc, o_pop, o_dup, o_dup2, o_iadd, o_isub, o_imul, o_iand, o_ior, o_ishl, o_ladd, o_lmul, o_land, o_lor, o_idiv, o_irem, o_ineg, o_i2l, o_l2i, o_i2b, o_i2s, o_lushr, o_lshr, o_lshl, o_lcmp, o_ifeq, o_ifne, o_iflt, o_ifge, o_ifgt, o_ifle, o_iceq, o_icne, o_iclt, o_icge, o_icgt, o_icle, o_goto, o_tsw, jsw, o_lsw, jlk, o_getf, o_putf, o_putz, o_iald, o_zald, o_iast, o_zast, o_aald, o_alen, o_gets, o_zld, o_zlen, o_cpy, o_call, o_callV, o_ireti, o_iretz, o_lret, o_vret, jg, js, jkp, jkill, jsp, jcs, jfw, jov, Value.category, Option.toList_some, Option.toList_none, List.nil_append, List.cons_append, List.append_nil, Nat.reduceAdd, true_and, and_true, jb0, jb01, jb1, jem, true_or, or_true, Classical.not_not, forall_const, List.length_cons, List.length_nil, Nat.reduceLeDiff, Nat.zero_le, Nat.reduceLT, hX, kx_0_0 hX, kx_0_1 hX, kx_0_2 hX, kx_0_3 hX, kx_0_4 hX, kx_0_5 hX, kx_0_6 hX, kx_0_7 hX, kx_0_8 hX, kxo_0 hX, kx_1_0 hX, kx_1_1 hX, kx_1_2 hX, kx_1_3 hX, kxo_1 hX, kx_4_0 hX, kx_4_1 hX, kx_4_2 hX, kxo_4 hX, kx_19_0 hX, kx_19_1 hX, kx_19_2 hX, kx_19_3 hX, kx_19_4 hX, kxo_19 hX, kx_24_0 hX, kx_24_1 hX, kx_24_2 hX, kx_24_3 hX, kx_24_4 hX, kx_24_5 hX, kx_24_6 hX, kxo_24 hX, kxa_2 hX, kxa_3 hX, kxa_6 hX, kxa_7 hX, kxa_8 hX, kxa_9 hX, kxa_10 hX, kxa_18 hX, kxa_20 hX, kxa_21 hX, kxa_22 hX, kxa_23 hX, kxa_26 hX, kxa_27 hX, kxr_5 hX, kxr_11 hX, kxr_28 hX, T_X1_isColumnUsed]
      rw [nI_m1]
      refine ⟨fun c => absurd c (nI_pos (by omega)), fun _ => ⟨vp_in_nI (by omega) (by omega), fun c => ?_, fun c => ?_⟩⟩
      · rw [nI_clamp (by omega)] at c
        exact ih (by omega) (fun r h1 h2 => by
          by_cases e : r = i
          · rw [e]; exact c
          · exact hz r (by omega) h2)
      · rw [nI_clamp (by omega)] at c
        exact hT _ (Or.inl ⟨i, by omega, c, fun j h1 h2 => hz j (by omega) h2, rfl⟩)
  refine H0 30 _ _ _ _ _ _ ?_
  simp only [sg_X1_greatestX_0, sg_X1_greatestX_4, sg_X1_greatestX_18, sg_X1_greatestX_24, cd_X1_greatestX, jwp, o_ic, o_lc, o_iload, o_lload, o_aload, o_istore, o_lstore, o_astore, o_iinc, o_pop, o_dup, o_dup2, o_iadd, o_isub, o_imul, o_iand, o_ior, o_ishl, o_ladd, o_lmul, o_land, o_lor, o_idiv, o_irem, o_ineg, o_i2l, o_l2i, o_i2b, o_i2s, o_lushr, o_lshr, o_lshl, o_lcmp, o_ifeq, o_ifne, o_iflt, o_ifge, o_ifgt, o_ifle, o_iceq, o_icne, o_iclt, o_icge, o_icgt, o_icle, o_goto, o_tsw, jsw, o_lsw, jlk, o_getf, o_putf, o_putz, o_iald, o_zald, o_iast, o_zast, o_aald, o_alen, o_gets, o_zld, o_zlen, o_cpy, o_call, o_callV, o_ireti, o_iretz, o_lret, o_vret, jg, js, jkp, jkill, jsp, jcs, jfw, jov, Value.category, Option.toList_some, Option.toList_none, List.nil_append, List.cons_append, List.append_nil, Nat.reduceAdd, true_and, and_true, jb0, jb01, jb1, jem, true_or, or_true, Classical.not_not, forall_const, List.length_cons, List.length_nil, Nat.reduceLeDiff, Nat.zero_le, Nat.reduceLT, hX, kx_0_0 hX, kx_0_1 hX, kx_0_2 hX, kx_0_3 hX, kx_0_4 hX, kx_0_5 hX, kx_0_6 hX, kx_0_7 hX, kx_0_8 hX, kxo_0 hX, kx_1_0 hX, kx_1_1 hX, kx_1_2 hX, kx_1_3 hX, kxo_1 hX, kx_4_0 hX, kx_4_1 hX, kx_4_2 hX, kxo_4 hX, kx_19_0 hX, kx_19_1 hX, kx_19_2 hX, kx_19_3 hX, kx_19_4 hX, kxo_19 hX, kx_24_0 hX, kx_24_1 hX, kx_24_2 hX, kx_24_3 hX, kx_24_4 hX, kx_24_5 hX, kx_24_6 hX, kxo_24 hX, kxa_2 hX, kxa_3 hX, kxa_6 hX, kxa_7 hX, kxa_8 hX, kxa_9 hX, kxa_10 hX, kxa_18 hX, kxa_20 hX, kxa_21 hX, kxa_22 hX, kxa_23 hX, kxa_26 hX, kxa_27 hX, kxr_5 hX, kxr_11 hX, kxr_28 hX]
  have h2 := loop 240 (by omega) (fun r h1 h2 => by omega)
  rw [nI_m1] at h2
  rw [e239]
  exact h2
theorem m_X1_greatestX (l : Launch) : jHolds vwCl l yX1_greatestX wsX1_greatestX 1 22 0 0 T_X1_greatestX := by
  refine m_X1_greatestX_of l (fun G Q vs K h H0 H4 hT => ?_)
  unfold T_X1_greatestX at hT
  split at hT
  · obtain ⟨rfl, hT⟩ := hT
    exact ⟨Nat.le_of_ble_eq_true rfl, v_X1_greatestX hT H0 H4⟩
  · exact hT.elim

/-! X1_leastY -/
theorem nI_nm1 {i : Nat} (h : i < 2147483648) : ¬ nI i = -1 := by
  intro q
  have h2 := congrArg Int32.toInt q
  rw [nI_toInt h] at h2
  have : (-1 : Int32).toInt = -1 := rfl
  omega
def T_X1_leastY : jT := fun vs K h Q => match vs with
  | [.ref r0] => r0 = 1 ∧ (jX K ∧ ∀ r, jleast (fun k => ¬ h 2 k = 0) 57600 r → Q (some (.int (if r = -1 then -1 else r / 240))) K h)
  | _ => False
def sg_X1_leastY_0 : jS := [(o_ic (0), 1), (o_istore 1, 1)]
def sg_X1_leastY_2 : jS := [(o_iload 1, 1), (o_ic (57600), 2), (o_icge 29, 3), (o_aload 0, 1), (o_getf 1 2, 3), (o_iload 1, 1), (o_iald, 1), (o_ifeq 23, 3), (o_iload 1, 1), (o_ic (240), 3), (o_idiv, 1), (o_ireti, 1)]
def sg_X1_leastY_23 : jS := [(o_iinc 1 (1), 3), (o_goto 2, 3)]
def sg_X1_leastY_29 : jS := [(o_ic (-1), 1), (o_ireti, 1)]
def cd_X1_leastY : Nat → jS := fun t => match t with
  | 23 => sg_X1_leastY_23
  | 29 => sg_X1_leastY_29
  | _ => []
theorem wl_X1_leastY_19 : Cond.fieldLink RX1 19 (TX1 2).1 (TX1 2).2.1 (TX1 2).2.2.1 ∈ wsX1_leastY := by decide +kernel
theorem wi_X1_leastY_X1 : ∀ w ∈ u_ws RX1 TX1 4, w ∈ wsX1_leastY := by decide +kernel
def E_X1_leastY (Γ : jΓ) (Q : jPost) : Prop := Γ.2.2.2.2.2.2.2.2.2.2.1 = 2 ∧ Γ.2.2.2.2.2.2.2.2.2.2.2.1 = vwCl ∧ jC Γ cX1_leastY RX1 "leastY" (some .int) wsX1_leastY 0 0 0 0 ∧ jR Γ Q 0 0
theorem oo_X1_leastY_0 {Γ : jΓ} {Q : jPost} (E : E_X1_leastY Γ Q) : jSA Γ Q 0 (o_ic (0)) 1 := so_iconst E.2.2.1 rfl dX1_leastY_0
theorem oo_X1_leastY_1 {Γ : jΓ} {Q : jPost} (E : E_X1_leastY Γ Q) : jSA Γ Q 1 (o_istore 1) 1 := so_istore_n E.2.2.1 rfl (by rw [E.1]; decide) dX1_leastY_1
theorem oo_X1_leastY_2 {Γ : jΓ} {Q : jPost} (E : E_X1_leastY Γ Q) : jSA Γ Q 2 (o_iload 1) 1 := so_iload_n E.2.2.1 rfl dX1_leastY_2
theorem oo_X1_leastY_3 {Γ : jΓ} {Q : jPost} (E : E_X1_leastY Γ Q) : jSA Γ Q 3 (o_ic (57600)) 2 := so_ldc E.2.2.1 (by decide +kernel) dX1_leastY_3
theorem oo_X1_leastY_5 {Γ : jΓ} {Q : jPost} (E : E_X1_leastY Γ Q) : jSA Γ Q 5 (o_icge 29) 3 := so_icge E.2.2.1 (by decide) dX1_leastY_5
theorem oo_X1_leastY_8 {Γ : jΓ} {Q : jPost} (E : E_X1_leastY Γ Q) : jSA Γ Q 8 (o_aload 0) 1 := so_aload_n E.2.2.1 rfl dX1_leastY_8
theorem oo_X1_leastY_9 {Γ : jΓ} {Q : jPost} (E : E_X1_leastY Γ Q) : jSA Γ Q 9 (o_getf 1 2) 3 := so_getf (ci := 1) E.2.2.1 wi_X1_leastY_X1 (by rw [E.2.1]; rfl) 2 (by decide) wl_X1_leastY_19 dX1_leastY_9
theorem oo_X1_leastY_12 {Γ : jΓ} {Q : jPost} (E : E_X1_leastY Γ Q) : jSA Γ Q 12 (o_iload 1) 1 := so_iload_n E.2.2.1 rfl dX1_leastY_12
theorem oo_X1_leastY_13 {Γ : jΓ} {Q : jPost} (E : E_X1_leastY Γ Q) : jSA Γ Q 13 (o_iald) 1 := so_iald E.2.2.1 dX1_leastY_13
theorem oo_X1_leastY_14 {Γ : jΓ} {Q : jPost} (E : E_X1_leastY Γ Q) : jSA Γ Q 14 (o_ifeq 23) 3 := so_ifeq E.2.2.1 (by decide) dX1_leastY_14
theorem oo_X1_leastY_17 {Γ : jΓ} {Q : jPost} (E : E_X1_leastY Γ Q) : jSA Γ Q 17 (o_iload 1) 1 := so_iload_n E.2.2.1 rfl dX1_leastY_17
theorem oo_X1_leastY_18 {Γ : jΓ} {Q : jPost} (E : E_X1_leastY Γ Q) : jSA Γ Q 18 (o_ic (240)) 3 := so_sipush E.2.2.1 rfl dX1_leastY_18
theorem oo_X1_leastY_21 {Γ : jΓ} {Q : jPost} (E : E_X1_leastY Γ Q) : jSA Γ Q 21 (o_idiv) 1 := so_idiv E.2.2.1 dX1_leastY_21
theorem oo_X1_leastY_22 {Γ : jΓ} {Q : jPost} (E : E_X1_leastY Γ Q) : jSA Γ Q 22 (o_ireti) 1 := so_ireti E.2.2.1 E.2.2.2 dX1_leastY_22
theorem oo_X1_leastY_23 {Γ : jΓ} {Q : jPost} (E : E_X1_leastY Γ Q) : jSA Γ Q 23 (o_iinc 1 (1)) 3 := so_iinc E.2.2.1 rfl (by rw [E.1]; decide) dX1_leastY_23
theorem oo_X1_leastY_26 {Γ : jΓ} {Q : jPost} (E : E_X1_leastY Γ Q) : jSA Γ Q 26 (o_goto 2) 3 := so_goto E.2.2.1 (by decide) dX1_leastY_26
theorem oo_X1_leastY_29 {Γ : jΓ} {Q : jPost} (E : E_X1_leastY Γ Q) : jSA Γ Q 29 (o_ic (-1)) 1 := so_iconst E.2.2.1 rfl dX1_leastY_29
theorem oo_X1_leastY_30 {Γ : jΓ} {Q : jPost} (E : E_X1_leastY Γ Q) : jSA Γ Q 30 (o_ireti) 1 := so_ireti E.2.2.1 E.2.2.2 dX1_leastY_30
theorem ok_X1_leastY_0 {Γ : jΓ} {Q : jPost} (E : E_X1_leastY Γ Q) : jSS Γ Q 0 sg_X1_leastY_0 := ⟨oo_X1_leastY_0 E, oo_X1_leastY_1 E, trivial⟩
theorem ok_X1_leastY_2 {Γ : jΓ} {Q : jPost} (E : E_X1_leastY Γ Q) : jSS Γ Q 2 sg_X1_leastY_2 := ⟨oo_X1_leastY_2 E, oo_X1_leastY_3 E, oo_X1_leastY_5 E, oo_X1_leastY_8 E, oo_X1_leastY_9 E, oo_X1_leastY_12 E, oo_X1_leastY_13 E, oo_X1_leastY_14 E, oo_X1_leastY_17 E, oo_X1_leastY_18 E, oo_X1_leastY_21 E, oo_X1_leastY_22 E, trivial⟩
theorem ok_X1_leastY_23 {Γ : jΓ} {Q : jPost} (E : E_X1_leastY Γ Q) : jSS Γ Q 23 sg_X1_leastY_23 := ⟨oo_X1_leastY_23 E, oo_X1_leastY_26 E, trivial⟩
theorem ok_X1_leastY_29 {Γ : jΓ} {Q : jPost} (E : E_X1_leastY Γ Q) : jSS Γ Q 29 sg_X1_leastY_29 := ⟨oo_X1_leastY_29 E, oo_X1_leastY_30 E, trivial⟩
theorem okc_X1_leastY {Γ : jΓ} {Q : jPost} (E : E_X1_leastY Γ Q) (t : Nat) : jSS Γ Q t (cd_X1_leastY t) := by
  unfold cd_X1_leastY
  split
  · exact ok_X1_leastY_23 E
  · exact ok_X1_leastY_29 E
  · trivial
theorem m_X1_leastY_of (l : Launch) (hv : ∀ (G : jGt) (Q : jPost) (vs : List Value) (K : List jK) (h : jM), jHd cd_X1_leastY G Q sg_X1_leastY_0 0 → jHd cd_X1_leastY G Q sg_X1_leastY_2 2 → T_X1_leastY vs K h Q → (lg_sl vs).length ≤ 2 ∧ G 0 (jinit vs 2) [] K h 0 0) : jHolds vwCl l yX1_leastY wsX1_leastY 0 0 0 0 T_X1_leastY := by
  refine jMet (cc := cX1_leastY) (maxL := 2) (rt := (some .int)) (by decide +kernel) rfl (fun Γ Q vs K h hl hn hcl C hR hT => hv (jG Γ) Q vs K h ?_ ?_ hT)
  · exact fun n L st K h ce sl => jwp_ok (okc_X1_leastY ⟨hn, hcl, C, hR⟩) n sg_X1_leastY_0 0 (ok_X1_leastY_0 ⟨hn, hcl, C, hR⟩) L st K h ce sl
  · exact fun n L st K h ce sl => jwp_ok (okc_X1_leastY ⟨hn, hcl, C, hR⟩) n sg_X1_leastY_2 2 (ok_X1_leastY_2 ⟨hn, hcl, C, hR⟩) L st K h ce sl
set_option maxHeartbeats 4000000 in
set_option maxRecDepth 100000 in
theorem v_X1_leastY {G : jGt} {Q : jPost} {K : List jK} {h : jM}  (hT : jX K ∧ ∀ r, jleast (fun k => ¬ h 2 k = 0) 57600 r → Q (some (.int (if r = -1 then -1 else r / 240))) K h) (H0 : jHd cd_X1_leastY G Q sg_X1_leastY_0 0) (H2 : jHd cd_X1_leastY G Q sg_X1_leastY_2 2) : G 0 [some (.ref 1), none] [] K h 0 0 := by
  obtain ⟨hX, hT⟩ := hT
  have loop : ∀ n i, i + n = 57600 → (∀ r, r < i → h 2 r = 0) → G 2 [some (.ref 1), some (.int (nI i))] [] K h 0 0 := by
    intro n
    induction n with
    | zero =>
      intro i hi hz
      have : i = 57600 := by omega
      subst this
      refine H2 30 _ _ _ _ _ _ ?_
      simp only [sg_X1_leastY_0, sg_X1_leastY_2, sg_X1_leastY_23, sg_X1_leastY_29, cd_X1_leastY, jwp, o_ic, o_lc, o_iload, o_lload, o_aload, o_istore, o_lstore, o_astore, o_iinc, o_pop, o_dup, o_dup2, o_iadd, o_isub, o_imul, o_iand, o_ior, o_ishl, o_ladd, o_lmul, o_land, o_lor, o_idiv, o_irem, o_ineg, o_i2l, o_l2i, o_i2b, o_i2s, o_lushr, o_lshr, o_lshl, o_lcmp, o_ifeq, o_ifne, o_iflt, o_ifge, o_ifgt, o_ifle, o_iceq, o_icne, o_iclt, o_icge, o_icgt, o_icle, o_goto, o_tsw, jsw, o_lsw, jlk, o_getf, o_putf, o_putz, o_iald, o_zald, o_iast, o_zast, o_aald, o_alen, o_gets, o_zld, o_zlen, o_cpy, o_call, o_callV, o_ireti, o_iretz, o_lret, o_vret, jg, js, jkp, jkill, jsp, jcs, jfw, jov, Value.category, Option.toList_some, Option.toList_none, List.nil_append, List.cons_append, List.append_nil, Nat.reduceAdd, true_and, and_true, jb0, jb01, jb1, jem, true_or, or_true, Classical.not_not, forall_const, List.length_cons, List.length_nil, Nat.reduceLeDiff, Nat.zero_le, Nat.reduceLT, hX, kx_0_0 hX, kx_0_1 hX, kx_0_2 hX, kx_0_3 hX, kx_0_4 hX, kx_0_5 hX, kx_0_6 hX, kx_0_7 hX, kx_0_8 hX, kxo_0 hX, kx_1_0 hX, kx_1_1 hX, kx_1_2 hX, kx_1_3 hX, kxo_1 hX, kx_4_0 hX, kx_4_1 hX, kx_4_2 hX, kxo_4 hX, kx_19_0 hX, kx_19_1 hX, kx_19_2 hX, kx_19_3 hX, kx_19_4 hX, kxo_19 hX, kx_24_0 hX, kx_24_1 hX, kx_24_2 hX, kx_24_3 hX, kx_24_4 hX, kx_24_5 hX, kx_24_6 hX, kxo_24 hX, kxa_2 hX, kxa_3 hX, kxa_6 hX, kxa_7 hX, kxa_8 hX, kxa_9 hX, kxa_10 hX, kxa_18 hX, kxa_20 hX, kxa_21 hX, kxa_22 hX, kxa_23 hX, kxa_26 hX, kxa_27 hX, kxr_5 hX, kxr_11 hX, kxr_28 hX]
      rw [e57600]
      exact ⟨fun _ => by have := hT _ (Or.inr ⟨fun j hj q => q (hz j hj), rfl⟩); rw [if_pos rfl] at this; exact this, fun c => absurd (Int32.le_refl _) c⟩
    | succ n ih =>
      intro i hi hz
      refine H2 30 _ _ _ _ _ _ ?_
      simp only [sg_X1_leastY_0, sg_X1_leastY_2, sg_X1_leastY_23, sg_X1_leastY_29, cd_X1_leastY, jwp, o_ic, o_lc, o_iload, o_lload, o_aload, o_istore, o_lstore, o_astore, o_iinc, o_pop, o_dup, o_dup2, o_iadd, o_isub, o_imul, o_iand, o_ior, o_ishl, o_ladd, o_lmul, o_land, o_lor, o_idiv, o_irem, o_ineg, o_i2l, o_l2i, o_i2b, o_i2s, o_lushr, o_lshr, o_lshl, o_lcmp, o_ifeq, o_ifne, o_iflt, o_ifge, o_ifgt, o_ifle, o_iceq, o_icne, o_iclt, o_icge, o_icgt, o_icle, o_goto, o_tsw, jsw, o_lsw, jlk, o_getf, o_putf, o_putz, o_iald, o_zald, o_iast, o_zast, o_aald, o_alen, o_gets, o_zld, o_zlen, o_cpy, o_call, o_callV, o_ireti, o_iretz, o_lret, o_vret, jg, js, jkp, jkill, jsp, jcs, jfw, jov, Value.category, Option.toList_some, Option.toList_none, List.nil_append, List.cons_append, List.append_nil, Nat.reduceAdd, true_and, and_true, jb0, jb01, jb1, jem, true_or, or_true, Classical.not_not, forall_const, List.length_cons, List.length_nil, Nat.reduceLeDiff, Nat.zero_le, Nat.reduceLT, hX, kx_0_0 hX, kx_0_1 hX, kx_0_2 hX, kx_0_3 hX, kx_0_4 hX, kx_0_5 hX, kx_0_6 hX, kx_0_7 hX, kx_0_8 hX, kxo_0 hX, kx_1_0 hX, kx_1_1 hX, kx_1_2 hX, kx_1_3 hX, kxo_1 hX, kx_4_0 hX, kx_4_1 hX, kx_4_2 hX, kxo_4 hX, kx_19_0 hX, kx_19_1 hX, kx_19_2 hX, kx_19_3 hX, kx_19_4 hX, kxo_19 hX, kx_24_0 hX, kx_24_1 hX, kx_24_2 hX, kx_24_3 hX, kx_24_4 hX, kx_24_5 hX, kx_24_6 hX, kxo_24 hX, kxa_2 hX, kxa_3 hX, kxa_6 hX, kxa_7 hX, kxa_8 hX, kxa_9 hX, kxa_10 hX, kxa_18 hX, kxa_20 hX, kxa_21 hX, kxa_22 hX, kxa_23 hX, kxa_26 hX, kxa_27 hX, kxr_5 hX, kxr_11 hX, kxr_28 hX]
      rw [e57600]
      refine ⟨fun c => absurd ((nI_leI (by omega) (by omega)).mp c) (by omega), fun _ => ⟨vp_in_nI (by omega) (by omega), fun c => ?_, fun c => ?_⟩⟩
      · rw [nI_clamp (by omega)] at c
        have h2 := ih (i + 1) (by omega) (fun r hr => by
          by_cases e : r = i
          · rw [e]; exact c
          · exact hz r (by omega))
        rw [nI_1]
        exact h2
      · rw [nI_clamp (by omega)] at c
        refine ⟨by decide, ?_⟩
        have := hT _ (Or.inl ⟨i, by omega, c, fun j hj q => q (hz j hj), rfl⟩)
        rw [if_neg (nI_nm1 (by omega))] at this
        exact this
  refine H0 30 _ _ _ _ _ _ ?_
  simp only [sg_X1_leastY_0, sg_X1_leastY_2, sg_X1_leastY_23, sg_X1_leastY_29, cd_X1_leastY, jwp, o_ic, o_lc, o_iload, o_lload, o_aload, o_istore, o_lstore, o_astore, o_iinc, o_pop, o_dup, o_dup2, o_iadd, o_isub, o_imul, o_iand, o_ior, o_ishl, o_ladd, o_lmul, o_land, o_lor, o_idiv, o_irem, o_ineg, o_i2l, o_l2i, o_i2b, o_i2s, o_lushr, o_lshr, o_lshl, o_lcmp, o_ifeq, o_ifne, o_iflt, o_ifge, o_ifgt, o_ifle, o_iceq, o_icne, o_iclt, o_icge, o_icgt, o_icle, o_goto, o_tsw, jsw, o_lsw, jlk, o_getf, o_putf, o_putz, o_iald, o_zald, o_iast, o_zast, o_aald, o_alen, o_gets, o_zld, o_zlen, o_cpy, o_call, o_callV, o_ireti, o_iretz, o_lret, o_vret, jg, js, jkp, jkill, jsp, jcs, jfw, jov, Value.category, Option.toList_some, Option.toList_none, List.nil_append, List.cons_append, List.append_nil, Nat.reduceAdd, true_and, and_true, jb0, jb01, jb1, jem, true_or, or_true, Classical.not_not, forall_const, List.length_cons, List.length_nil, Nat.reduceLeDiff, Nat.zero_le, Nat.reduceLT, hX, kx_0_0 hX, kx_0_1 hX, kx_0_2 hX, kx_0_3 hX, kx_0_4 hX, kx_0_5 hX, kx_0_6 hX, kx_0_7 hX, kx_0_8 hX, kxo_0 hX, kx_1_0 hX, kx_1_1 hX, kx_1_2 hX, kx_1_3 hX, kxo_1 hX, kx_4_0 hX, kx_4_1 hX, kx_4_2 hX, kxo_4 hX, kx_19_0 hX, kx_19_1 hX, kx_19_2 hX, kx_19_3 hX, kx_19_4 hX, kxo_19 hX, kx_24_0 hX, kx_24_1 hX, kx_24_2 hX, kx_24_3 hX, kx_24_4 hX, kx_24_5 hX, kx_24_6 hX, kxo_24 hX, kxa_2 hX, kxa_3 hX, kxa_6 hX, kxa_7 hX, kxa_8 hX, kxa_9 hX, kxa_10 hX, kxa_18 hX, kxa_20 hX, kxa_21 hX, kxa_22 hX, kxa_23 hX, kxa_26 hX, kxa_27 hX, kxr_5 hX, kxr_11 hX, kxr_28 hX]
  exact loop 57600 0 (by omega) (fun r hr => by omega)
theorem m_X1_leastY (l : Launch) : jHolds vwCl l yX1_leastY wsX1_leastY 0 0 0 0 T_X1_leastY := by
  refine m_X1_leastY_of l (fun G Q vs K h H0 H2 hT => ?_)
  unfold T_X1_leastY at hT
  split at hT
  · obtain ⟨rfl, hT⟩ := hT
    exact ⟨Nat.le_of_ble_eq_true rfl, v_X1_leastY hT H0 H2⟩
  · exact hT.elim

/-! X1_greatestY -/
def T_X1_greatestY : jT := fun vs K h Q => match vs with
  | [.ref r0] => r0 = 1 ∧ (jX K ∧ ∀ r, jmost (fun k => ¬ h 2 k = 0) 57600 r → Q (some (.int (if r = -1 then -1 else r / 240))) K h)
  | _ => False
def sg_X1_greatestY_0 : jS := [(o_ic (57599), 2), (o_istore 1, 1)]
def sg_X1_greatestY_3 : jS := [(o_iload 1, 1), (o_iflt 28, 3), (o_aload 0, 1), (o_getf 1 2, 3), (o_iload 1, 1), (o_iald, 1), (o_ifeq 22, 3), (o_iload 1, 1), (o_ic (240), 3), (o_idiv, 1), (o_ireti, 1)]
def sg_X1_greatestY_22 : jS := [(o_iinc 1 (-1), 3), (o_goto 3, 3)]
def sg_X1_greatestY_28 : jS := [(o_ic (-1), 1), (o_ireti, 1)]
def cd_X1_greatestY : Nat → jS := fun t => match t with
  | 22 => sg_X1_greatestY_22
  | 28 => sg_X1_greatestY_28
  | _ => []
theorem wl_X1_greatestY_19 : Cond.fieldLink RX1 19 (TX1 2).1 (TX1 2).2.1 (TX1 2).2.2.1 ∈ wsX1_greatestY := by decide +kernel
theorem wi_X1_greatestY_X1 : ∀ w ∈ u_ws RX1 TX1 4, w ∈ wsX1_greatestY := by decide +kernel
def E_X1_greatestY (Γ : jΓ) (Q : jPost) : Prop := Γ.2.2.2.2.2.2.2.2.2.2.1 = 2 ∧ Γ.2.2.2.2.2.2.2.2.2.2.2.1 = vwCl ∧ jC Γ cX1_greatestY RX1 "greatestY" (some .int) wsX1_greatestY 0 0 0 0 ∧ jR Γ Q 0 0
theorem oo_X1_greatestY_0 {Γ : jΓ} {Q : jPost} (E : E_X1_greatestY Γ Q) : jSA Γ Q 0 (o_ic (57599)) 2 := so_ldc E.2.2.1 (by decide +kernel) dX1_greatestY_0
theorem oo_X1_greatestY_2 {Γ : jΓ} {Q : jPost} (E : E_X1_greatestY Γ Q) : jSA Γ Q 2 (o_istore 1) 1 := so_istore_n E.2.2.1 rfl (by rw [E.1]; decide) dX1_greatestY_2
theorem oo_X1_greatestY_3 {Γ : jΓ} {Q : jPost} (E : E_X1_greatestY Γ Q) : jSA Γ Q 3 (o_iload 1) 1 := so_iload_n E.2.2.1 rfl dX1_greatestY_3
theorem oo_X1_greatestY_4 {Γ : jΓ} {Q : jPost} (E : E_X1_greatestY Γ Q) : jSA Γ Q 4 (o_iflt 28) 3 := so_iflt E.2.2.1 (by decide) dX1_greatestY_4
theorem oo_X1_greatestY_7 {Γ : jΓ} {Q : jPost} (E : E_X1_greatestY Γ Q) : jSA Γ Q 7 (o_aload 0) 1 := so_aload_n E.2.2.1 rfl dX1_greatestY_7
theorem oo_X1_greatestY_8 {Γ : jΓ} {Q : jPost} (E : E_X1_greatestY Γ Q) : jSA Γ Q 8 (o_getf 1 2) 3 := so_getf (ci := 1) E.2.2.1 wi_X1_greatestY_X1 (by rw [E.2.1]; rfl) 2 (by decide) wl_X1_greatestY_19 dX1_greatestY_8
theorem oo_X1_greatestY_11 {Γ : jΓ} {Q : jPost} (E : E_X1_greatestY Γ Q) : jSA Γ Q 11 (o_iload 1) 1 := so_iload_n E.2.2.1 rfl dX1_greatestY_11
theorem oo_X1_greatestY_12 {Γ : jΓ} {Q : jPost} (E : E_X1_greatestY Γ Q) : jSA Γ Q 12 (o_iald) 1 := so_iald E.2.2.1 dX1_greatestY_12
theorem oo_X1_greatestY_13 {Γ : jΓ} {Q : jPost} (E : E_X1_greatestY Γ Q) : jSA Γ Q 13 (o_ifeq 22) 3 := so_ifeq E.2.2.1 (by decide) dX1_greatestY_13
theorem oo_X1_greatestY_16 {Γ : jΓ} {Q : jPost} (E : E_X1_greatestY Γ Q) : jSA Γ Q 16 (o_iload 1) 1 := so_iload_n E.2.2.1 rfl dX1_greatestY_16
theorem oo_X1_greatestY_17 {Γ : jΓ} {Q : jPost} (E : E_X1_greatestY Γ Q) : jSA Γ Q 17 (o_ic (240)) 3 := so_sipush E.2.2.1 rfl dX1_greatestY_17
theorem oo_X1_greatestY_20 {Γ : jΓ} {Q : jPost} (E : E_X1_greatestY Γ Q) : jSA Γ Q 20 (o_idiv) 1 := so_idiv E.2.2.1 dX1_greatestY_20
theorem oo_X1_greatestY_21 {Γ : jΓ} {Q : jPost} (E : E_X1_greatestY Γ Q) : jSA Γ Q 21 (o_ireti) 1 := so_ireti E.2.2.1 E.2.2.2 dX1_greatestY_21
theorem oo_X1_greatestY_22 {Γ : jΓ} {Q : jPost} (E : E_X1_greatestY Γ Q) : jSA Γ Q 22 (o_iinc 1 (-1)) 3 := so_iinc E.2.2.1 rfl (by rw [E.1]; decide) dX1_greatestY_22
theorem oo_X1_greatestY_25 {Γ : jΓ} {Q : jPost} (E : E_X1_greatestY Γ Q) : jSA Γ Q 25 (o_goto 3) 3 := so_goto E.2.2.1 (by decide) dX1_greatestY_25
theorem oo_X1_greatestY_28 {Γ : jΓ} {Q : jPost} (E : E_X1_greatestY Γ Q) : jSA Γ Q 28 (o_ic (-1)) 1 := so_iconst E.2.2.1 rfl dX1_greatestY_28
theorem oo_X1_greatestY_29 {Γ : jΓ} {Q : jPost} (E : E_X1_greatestY Γ Q) : jSA Γ Q 29 (o_ireti) 1 := so_ireti E.2.2.1 E.2.2.2 dX1_greatestY_29
theorem ok_X1_greatestY_0 {Γ : jΓ} {Q : jPost} (E : E_X1_greatestY Γ Q) : jSS Γ Q 0 sg_X1_greatestY_0 := ⟨oo_X1_greatestY_0 E, oo_X1_greatestY_2 E, trivial⟩
theorem ok_X1_greatestY_3 {Γ : jΓ} {Q : jPost} (E : E_X1_greatestY Γ Q) : jSS Γ Q 3 sg_X1_greatestY_3 := ⟨oo_X1_greatestY_3 E, oo_X1_greatestY_4 E, oo_X1_greatestY_7 E, oo_X1_greatestY_8 E, oo_X1_greatestY_11 E, oo_X1_greatestY_12 E, oo_X1_greatestY_13 E, oo_X1_greatestY_16 E, oo_X1_greatestY_17 E, oo_X1_greatestY_20 E, oo_X1_greatestY_21 E, trivial⟩
theorem ok_X1_greatestY_22 {Γ : jΓ} {Q : jPost} (E : E_X1_greatestY Γ Q) : jSS Γ Q 22 sg_X1_greatestY_22 := ⟨oo_X1_greatestY_22 E, oo_X1_greatestY_25 E, trivial⟩
theorem ok_X1_greatestY_28 {Γ : jΓ} {Q : jPost} (E : E_X1_greatestY Γ Q) : jSS Γ Q 28 sg_X1_greatestY_28 := ⟨oo_X1_greatestY_28 E, oo_X1_greatestY_29 E, trivial⟩
theorem okc_X1_greatestY {Γ : jΓ} {Q : jPost} (E : E_X1_greatestY Γ Q) (t : Nat) : jSS Γ Q t (cd_X1_greatestY t) := by
  unfold cd_X1_greatestY
  split
  · exact ok_X1_greatestY_22 E
  · exact ok_X1_greatestY_28 E
  · trivial
theorem m_X1_greatestY_of (l : Launch) (hv : ∀ (G : jGt) (Q : jPost) (vs : List Value) (K : List jK) (h : jM), jHd cd_X1_greatestY G Q sg_X1_greatestY_0 0 → jHd cd_X1_greatestY G Q sg_X1_greatestY_3 3 → T_X1_greatestY vs K h Q → (lg_sl vs).length ≤ 2 ∧ G 0 (jinit vs 2) [] K h 0 0) : jHolds vwCl l yX1_greatestY wsX1_greatestY 0 0 0 0 T_X1_greatestY := by
  refine jMet (cc := cX1_greatestY) (maxL := 2) (rt := (some .int)) (by decide +kernel) rfl (fun Γ Q vs K h hl hn hcl C hR hT => hv (jG Γ) Q vs K h ?_ ?_ hT)
  · exact fun n L st K h ce sl => jwp_ok (okc_X1_greatestY ⟨hn, hcl, C, hR⟩) n sg_X1_greatestY_0 0 (ok_X1_greatestY_0 ⟨hn, hcl, C, hR⟩) L st K h ce sl
  · exact fun n L st K h ce sl => jwp_ok (okc_X1_greatestY ⟨hn, hcl, C, hR⟩) n sg_X1_greatestY_3 3 (ok_X1_greatestY_3 ⟨hn, hcl, C, hR⟩) L st K h ce sl
set_option maxHeartbeats 4000000 in
set_option maxRecDepth 100000 in
theorem v_X1_greatestY {G : jGt} {Q : jPost} {K : List jK} {h : jM}  (hT : jX K ∧ ∀ r, jmost (fun k => ¬ h 2 k = 0) 57600 r → Q (some (.int (if r = -1 then -1 else r / 240))) K h) (H0 : jHd cd_X1_greatestY G Q sg_X1_greatestY_0 0) (H3 : jHd cd_X1_greatestY G Q sg_X1_greatestY_3 3) : G 0 [some (.ref 1), none] [] K h 0 0 := by
  obtain ⟨hX, hT⟩ := hT
  have loop : ∀ i, i ≤ 57600 → (∀ r, i ≤ r → r < 57600 → h 2 r = 0) → G 3 [some (.ref 1), some (.int (nI i + -1))] [] K h 0 0 := by
    intro i
    induction i with
    | zero =>
      intro hi hz
      refine H3 30 _ _ _ _ _ _ ?_
      simp only [sg_X1_greatestY_0, sg_X1_greatestY_3, sg_X1_greatestY_22, sg_X1_greatestY_28, cd_X1_greatestY, jwp, o_ic, o_lc, o_iload, o_lload, o_aload, o_istore, o_lstore, o_astore, o_iinc, o_pop, o_dup, o_dup2, o_iadd, o_isub, o_imul, o_iand, o_ior, o_ishl, o_ladd, o_lmul, o_land, o_lor, o_idiv, o_irem, o_ineg, o_i2l, o_l2i, o_i2b, o_i2s, o_lushr, o_lshr, o_lshl, o_lcmp, o_ifeq, o_ifne, o_iflt, o_ifge, o_ifgt, o_ifle, o_iceq, o_icne, o_iclt, o_icge, o_icgt, o_icle, o_goto, o_tsw, jsw, o_lsw, jlk, o_getf, o_putf, o_putz, o_iald, o_zald, o_iast, o_zast, o_aald, o_alen, o_gets, o_zld, o_zlen, o_cpy, o_call, o_callV, o_ireti, o_iretz, o_lret, o_vret, jg, js, jkp, jkill, jsp, jcs, jfw, jov, Value.category, Option.toList_some, Option.toList_none, List.nil_append, List.cons_append, List.append_nil, Nat.reduceAdd, true_and, and_true, jb0, jb01, jb1, jem, true_or, or_true, Classical.not_not, forall_const, List.length_cons, List.length_nil, Nat.reduceLeDiff, Nat.zero_le, Nat.reduceLT, hX, kx_0_0 hX, kx_0_1 hX, kx_0_2 hX, kx_0_3 hX, kx_0_4 hX, kx_0_5 hX, kx_0_6 hX, kx_0_7 hX, kx_0_8 hX, kxo_0 hX, kx_1_0 hX, kx_1_1 hX, kx_1_2 hX, kx_1_3 hX, kxo_1 hX, kx_4_0 hX, kx_4_1 hX, kx_4_2 hX, kxo_4 hX, kx_19_0 hX, kx_19_1 hX, kx_19_2 hX, kx_19_3 hX, kx_19_4 hX, kxo_19 hX, kx_24_0 hX, kx_24_1 hX, kx_24_2 hX, kx_24_3 hX, kx_24_4 hX, kx_24_5 hX, kx_24_6 hX, kxo_24 hX, kxa_2 hX, kxa_3 hX, kxa_6 hX, kxa_7 hX, kxa_8 hX, kxa_9 hX, kxa_10 hX, kxa_18 hX, kxa_20 hX, kxa_21 hX, kxa_22 hX, kxa_23 hX, kxa_26 hX, kxa_27 hX, kxr_5 hX, kxr_11 hX, kxr_28 hX]
      rw [nI_neg1]
      exact ⟨fun _ => by have := hT _ (Or.inr ⟨fun j hj q => q (hz j (by omega) hj), rfl⟩); rw [if_pos rfl] at this; exact this, fun c => absurd (by decide) c⟩
    | succ i ih =>
      intro hi hz
      refine H3 30 _ _ _ _ _ _ ?_
      simp only [sg_X1_greatestY_0, sg_X1_greatestY_3, sg_X1_greatestY_22, sg_X1_greatestY_28, cd_X1_greatestY, jwp, o_ic, o_lc, o_iload, o_lload, o_aload, o_istore, o_lstore, o_astore, o_iinc, o_pop, o_dup, o_dup2, o_iadd, o_isub, o_imul, o_iand, o_ior, o_ishl, o_ladd, o_lmul, o_land, o_lor, o_idiv, o_irem, o_ineg, o_i2l, o_l2i, o_i2b, o_i2s, o_lushr, o_lshr, o_lshl, o_lcmp, o_ifeq, o_ifne, o_iflt, o_ifge, o_ifgt, o_ifle, o_iceq, o_icne, o_iclt, o_icge, o_icgt, o_icle, o_goto, o_tsw, jsw, o_lsw, jlk, o_getf, o_putf, o_putz, o_iald, o_zald, o_iast, o_zast, o_aald, o_alen, o_gets, o_zld, o_zlen, o_cpy, o_call, o_callV, o_ireti, o_iretz, o_lret, o_vret, jg, js, jkp, jkill, jsp, jcs, jfw, jov, Value.category, Option.toList_some, Option.toList_none, List.nil_append, List.cons_append, List.append_nil, Nat.reduceAdd, true_and, and_true, jb0, jb01, jb1, jem, true_or, or_true, Classical.not_not, forall_const, List.length_cons, List.length_nil, Nat.reduceLeDiff, Nat.zero_le, Nat.reduceLT, hX, kx_0_0 hX, kx_0_1 hX, kx_0_2 hX, kx_0_3 hX, kx_0_4 hX, kx_0_5 hX, kx_0_6 hX, kx_0_7 hX, kx_0_8 hX, kxo_0 hX, kx_1_0 hX, kx_1_1 hX, kx_1_2 hX, kx_1_3 hX, kxo_1 hX, kx_4_0 hX, kx_4_1 hX, kx_4_2 hX, kxo_4 hX, kx_19_0 hX, kx_19_1 hX, kx_19_2 hX, kx_19_3 hX, kx_19_4 hX, kxo_19 hX, kx_24_0 hX, kx_24_1 hX, kx_24_2 hX, kx_24_3 hX, kx_24_4 hX, kx_24_5 hX, kx_24_6 hX, kxo_24 hX, kxa_2 hX, kxa_3 hX, kxa_6 hX, kxa_7 hX, kxa_8 hX, kxa_9 hX, kxa_10 hX, kxa_18 hX, kxa_20 hX, kxa_21 hX, kxa_22 hX, kxa_23 hX, kxa_26 hX, kxa_27 hX, kxr_5 hX, kxr_11 hX, kxr_28 hX]
      rw [nI_m1]
      refine ⟨fun c => absurd c (nI_pos (by omega)), fun _ => ⟨vp_in_nI (by omega) (by omega), fun c => ?_, fun c => ?_⟩⟩
      · rw [nI_clamp (by omega)] at c
        exact ih (by omega) (fun r h1 h2 => by
          by_cases e : r = i
          · rw [e]; exact c
          · exact hz r (by omega) h2)
      · rw [nI_clamp (by omega)] at c
        refine ⟨by decide, ?_⟩
        have := hT _ (Or.inl ⟨i, by omega, c, fun j h1 h2 q => q (hz j (by omega) h2), rfl⟩)
        rw [if_neg (nI_nm1 (by omega))] at this
        exact this
  refine H0 30 _ _ _ _ _ _ ?_
  simp only [sg_X1_greatestY_0, sg_X1_greatestY_3, sg_X1_greatestY_22, sg_X1_greatestY_28, cd_X1_greatestY, jwp, o_ic, o_lc, o_iload, o_lload, o_aload, o_istore, o_lstore, o_astore, o_iinc, o_pop, o_dup, o_dup2, o_iadd, o_isub, o_imul, o_iand, o_ior, o_ishl, o_ladd, o_lmul, o_land, o_lor, o_idiv, o_irem, o_ineg, o_i2l, o_l2i, o_i2b, o_i2s, o_lushr, o_lshr, o_lshl, o_lcmp, o_ifeq, o_ifne, o_iflt, o_ifge, o_ifgt, o_ifle, o_iceq, o_icne, o_iclt, o_icge, o_icgt, o_icle, o_goto, o_tsw, jsw, o_lsw, jlk, o_getf, o_putf, o_putz, o_iald, o_zald, o_iast, o_zast, o_aald, o_alen, o_gets, o_zld, o_zlen, o_cpy, o_call, o_callV, o_ireti, o_iretz, o_lret, o_vret, jg, js, jkp, jkill, jsp, jcs, jfw, jov, Value.category, Option.toList_some, Option.toList_none, List.nil_append, List.cons_append, List.append_nil, Nat.reduceAdd, true_and, and_true, jb0, jb01, jb1, jem, true_or, or_true, Classical.not_not, forall_const, List.length_cons, List.length_nil, Nat.reduceLeDiff, Nat.zero_le, Nat.reduceLT, hX, kx_0_0 hX, kx_0_1 hX, kx_0_2 hX, kx_0_3 hX, kx_0_4 hX, kx_0_5 hX, kx_0_6 hX, kx_0_7 hX, kx_0_8 hX, kxo_0 hX, kx_1_0 hX, kx_1_1 hX, kx_1_2 hX, kx_1_3 hX, kxo_1 hX, kx_4_0 hX, kx_4_1 hX, kx_4_2 hX, kxo_4 hX, kx_19_0 hX, kx_19_1 hX, kx_19_2 hX, kx_19_3 hX, kx_19_4 hX, kxo_19 hX, kx_24_0 hX, kx_24_1 hX, kx_24_2 hX, kx_24_3 hX, kx_24_4 hX, kx_24_5 hX, kx_24_6 hX, kxo_24 hX, kxa_2 hX, kxa_3 hX, kxa_6 hX, kxa_7 hX, kxa_8 hX, kxa_9 hX, kxa_10 hX, kxa_18 hX, kxa_20 hX, kxa_21 hX, kxa_22 hX, kxa_23 hX, kxa_26 hX, kxa_27 hX, kxr_5 hX, kxr_11 hX, kxr_28 hX]
  have h2 := loop 57600 (by omega) (fun r h1 h2 => by omega)
  rw [nI_m1] at h2
  rw [e57599]
  exact h2
theorem m_X1_greatestY (l : Launch) : jHolds vwCl l yX1_greatestY wsX1_greatestY 0 0 0 0 T_X1_greatestY := by
  refine m_X1_greatestY_of l (fun G Q vs K h H0 H3 hT => ?_)
  unfold T_X1_greatestY at hT
  split at hT
  · obtain ⟨rfl, hT⟩ := hT
    exact ⟨Nat.le_of_ble_eq_true rfl, v_X1_greatestY hT H0 H3⟩
  · exact hT.elim
