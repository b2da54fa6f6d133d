/-! ===== an act, an act back ===== -/
def jdirsN (h : jM) : Nat := if h 1 0 = 1 then 6 else 4
theorem jdirs_N (h : jM) : jdirs h = nI (jdirsN h) := by
  unfold jdirs jdirsN
  by_cases c : h 1 0 = 1
  · rw [if_pos c, if_pos c]; rfl
  · rw [if_neg c, if_neg c]; rfl
theorem jdirsN_le (h : jM) : 4 ≤ jdirsN h ∧ jdirsN h ≤ 6 := by
  unfold jdirsN
  by_cases c : h 1 0 = 1
  · rw [if_pos c]; omega
  · rw [if_neg c]; omega
/-- an ant's cell, direction and rule are such -/
def antOK (h : jM) (a : Nat) : Prop := onF (h a 0) (h a 1) ∧ vp_in (h a 2) (jdirsN h) ∧ vp_in (h a 3) 4
/-- the colours and the letters are such -/
def flOK (h : jM) : Prop := (2 ≤ (h 1 1).toInt ∧ (h 1 1).toInt ≤ 12) ∧ (∀ i, i < 57600 → 0 ≤ (h 2 i).toInt ∧ (h 2 i).toInt < (h 1 1).toInt) ∧ (∀ r c : Nat, r < 4 → (c : Int) < (h 1 1).toInt → 0 ≤ (h (6 + r) c).toInt ∧ (h (6 + r) c).toInt < (jdirsN h : Int))
theorem jturn_in {D : Nat} {d t : Int32} (hD : D ≤ 6) (h1 : vp_in d D) (h2 : 0 ≤ t.toInt ∧ t.toInt < D) : vp_in (jturn (nI D) (d + t)) D := by
  rw [vp_in_iff] at h1 ⊢
  unfold jturn
  have hn : (nI D).toInt = D := nI_toInt (by omega)
  have hs : (d + t).toInt = d.toInt + t.toInt := ti_add (by omega) (by omega)
  have c0 : ¬ d + t < 0 := by
    rw [Int32.lt_iff_toInt_lt, hs]
    show ¬ _ < (0 : Int)
    omega
  rw [if_neg c0]
  by_cases c : d + t < nI D
  · rw [if_pos c]
    rw [Int32.lt_iff_toInt_lt, hs, hn] at c
    rw [hs]; omega
  · rw [if_neg c]
    rw [Int32.lt_iff_toInt_lt, hs, hn] at c
    rw [ti_sub (by rw [hs, hn]; omega) (by rw [hs, hn]; omega), hs, hn]
    omega
theorem ti_neg {x : Int32} (h1 : -2147483648 < x.toInt) : (-x).toInt = -x.toInt := by
  have h2 := x.toInt_lt
  rw [Int32.toInt_neg, Int.bmod_eq_of_le (by omega) (by omega)]
theorem jturn_back {D : Nat} {d t : Int32} (hD : D ≤ 6) (h1 : vp_in d D) (h2 : 0 ≤ t.toInt ∧ t.toInt < D) : vp_in (jturn (nI D) (d + -t)) D := by
  rw [vp_in_iff] at h1 ⊢
  unfold jturn
  have hn : (nI D).toInt = D := nI_toInt (by omega)
  have hm : (-t).toInt = -t.toInt := ti_neg (by omega)
  have hs : (d + -t).toInt = d.toInt - t.toInt := by rw [ti_add (by omega) (by omega)]; omega
  by_cases c0 : d + -t < 0
  · rw [if_pos c0]
    rw [Int32.lt_iff_toInt_lt, hs] at c0
    have c1 : d.toInt - t.toInt < 0 := c0
    rw [ti_add (by rw [hs, hn]; omega) (by rw [hs, hn]; omega), hs, hn]
    omega
  · rw [if_neg c0]
    rw [Int32.lt_iff_toInt_lt, hs] at c0
    have c1 : ¬ d.toInt - t.toInt < 0 := c0
    have c : d + -t < nI D := by rw [Int32.lt_iff_toInt_lt, hs, hn]; omega
    rw [if_pos c, hs]; omega
noncomputable def cP (h : jM) (a : Nat) : Nat := (jpl (h a 0) (h a 1)).toNatClampNeg
noncomputable def cCl (h : jM) (a : Nat) : Int32 := h 2 (cP h a)
noncomputable def cDr (h : jM) (a : Nat) : Int32 := jturn (jdirs h) (h a 2 + h (6 + (h a 3).toNatClampNeg) (cCl h a).toNatClampNeg)
noncomputable def cXn (h : jM) (a : Nat) : Int32 := h a 0 + jsX h (cDr h a)
noncomputable def cYn (h : jM) (a : Nat) : Int32 := h a 1 + jsY h (cDr h a)
/-- the memory behind an act -/
noncomputable def cActM (h : jM) (a : Nat) : jM := upAnt (up2 (up2 h 2 (cP h a) (if cCl h a + 1 < h 1 1 then cCl h a + 1 else 0)) 3 (cP h a) (h 3 (cP h a) + 1)) a (cXn h a) (cYn h a) (cDr h a) (h a 3)
noncomputable def cBX (h : jM) (a : Nat) : Int32 := h a 0 - jsX h (h a 2)
noncomputable def cBY (h : jM) (a : Nat) : Int32 := h a 1 - jsY h (h a 2)
noncomputable def cBP (h : jM) (a : Nat) : Nat := (jpl (cBX h a) (cBY h a)).toNatClampNeg
noncomputable def cBC (h : jM) (a : Nat) : Int32 := if h 2 (cBP h a) ≤ 0 then h 1 1 - 1 else h 2 (cBP h a) - 1
noncomputable def cBD (h : jM) (a : Nat) : Int32 := jturn (jdirs h) (h a 2 + -(h (6 + (h a 3).toNatClampNeg) (cBC h a).toNatClampNeg))
/-- the memory behind an act back -/
noncomputable def cBackM (h : jM) (a : Nat) : jM := upAnt (up2 (up2 h 2 (cBP h a) (cBC h a)) 3 (cBP h a) (h 3 (cBP h a) - 1)) a (cBX h a) (cBY h a) (cBD h a) (h a 3)
theorem vp_in_clamp {x : Int32} {n : Nat} (h : vp_in x n) : x.toNatClampNeg < n := Nat.not_le.mp fun q => h (Or.inr q)
theorem vp_in_mono {x : Int32} {n m : Nat} (h : vp_in x n) (hm : n ≤ m) : vp_in x m := fun q => h (by
  rcases q with q | q
  · exact Or.inl q
  · exact Or.inr (by omega))
theorem clamp_int {x : Int32} (h : 0 ≤ x.toInt) : ((x.toNatClampNeg : Nat) : Int) = x.toInt := by
  obtain ⟨j, hj, rfl⟩ := nI_of (x := x) (by rw [Int32.lt_iff_toInt_lt]; exact fun q => absurd q (by show ¬ x.toInt < 0; omega))
  rw [nI_clamp hj, nI_toInt hj]

/-! X6_act -/
def T_X6_act : jT := fun vs K h Q => match vs with
  | [.ref r0, .ref a] => r0 = 0 ∧ ((∃ i, i < 6 ∧ a = 12 + i) ∧ jX K ∧ flOK h ∧ antOK h a ∧ (onF (cXn h a) (cYn h a) → Q (some (.int 1)) K (cActM h a)) ∧ (¬ onF (cXn h a) (cYn h a) → Q (some (.int 0)) K h))
  | _ => False
def sg_X6_act_0 : jS := [(o_aload 1, 1), (o_getf 0 0, 3), (o_aload 1, 1), (o_getf 0 1, 3), (o_call 2 T_X6_placeOf, 3), (o_istore 2, 1), (o_iload 2, 1), (o_ifge 18, 3), (o_ic (0), 1), (o_iretz, 1)]
def sg_X6_act_18 : jS := [(o_aload 0, 1), (o_getf 6 0, 3), (o_getf 1 2, 3), (o_iload 2, 1), (o_iald, 1), (o_istore 3, 1), (o_aload 0, 1), (o_getf 6 0, 3), (o_aload 1, 1), (o_getf 0 2, 3), (o_aload 0, 1), (o_getf 6 1, 3), (o_getf 4 0, 3), (o_aload 1, 1), (o_getf 0 3, 3), (o_aald 4, 1), (o_iload 3, 1), (o_iald, 1), (o_callV 3 1 T_X1_turned, 3), (o_istore 4, 2), (o_aload 1, 1), (o_getf 0 0, 3), (o_aload 0, 1), (o_getf 6 0, 3), (o_iload 4, 2), (o_callV 2 1 T_X1_stepX, 3), (o_iadd, 1), (o_istore 5, 2), (o_aload 1, 1), (o_getf 0 1, 3), (o_aload 0, 1), (o_getf 6 0, 3), (o_iload 4, 2), (o_callV 2 1 T_X1_stepY, 3), (o_iadd, 1), (o_istore 6, 2), (o_iload 5, 2), (o_iload 6, 2), (o_call 2 T_X6_isOn, 3), (o_ifne 99, 3), (o_ic (0), 1), (o_iretz, 1)]
def sg_X6_act_99 : jS := [(o_aload 0, 1), (o_getf 6 0, 3), (o_getf 1 2, 3), (o_iload 2, 1), (o_iload 3, 1), (o_ic (1), 1), (o_iadd, 1), (o_aload 0, 1), (o_getf 6 0, 3), (o_getf 1 1, 3), (o_icge 126, 3), (o_iload 3, 1), (o_ic (1), 1), (o_iadd, 1), (o_goto 127, 3)]
def sg_X6_act_126 : jS := [(o_ic (0), 1), (o_iast, 1), (o_aload 0, 1), (o_getf 6 0, 3), (o_getf 1 3, 3), (o_iload 2, 1), (o_dup2, 1), (o_iald, 1), (o_ic (1), 1), (o_iadd, 1), (o_iast, 1), (o_aload 1, 1), (o_iload 5, 2), (o_iload 6, 2), (o_iload 4, 2), (o_aload 1, 1), (o_getf 0 3, 3), (o_callV 5 0 T_X0_put, 3), (o_ic (1), 1), (o_iretz, 1)]
def sg_X6_act_127 : jS := [(o_iast, 1), (o_aload 0, 1), (o_getf 6 0, 3), (o_getf 1 3, 3), (o_iload 2, 1), (o_dup2, 1), (o_iald, 1), (o_ic (1), 1), (o_iadd, 1), (o_iast, 1), (o_aload 1, 1), (o_iload 5, 2), (o_iload 6, 2), (o_iload 4, 2), (o_aload 1, 1), (o_getf 0 3, 3), (o_callV 5 0 T_X0_put, 3), (o_ic (1), 1), (o_iretz, 1)]
def cd_X6_act : Nat → jS := fun t => match t with
  | 18 => sg_X6_act_18
  | 99 => sg_X6_act_99
  | 126 => sg_X6_act_126
  | 127 => sg_X6_act_127
  | _ => []
theorem wl_X6_act_12 : Cond.fieldLink RX6 12 (TX6 0).1 (TX6 0).2.1 (TX6 0).2.2.1 ∈ wsX6_act := by decide +kernel
theorem wl_X6_act_19 : Cond.fieldLink RX6 19 (TX6 1).1 (TX6 1).2.1 (TX6 1).2.2.1 ∈ wsX6_act := by decide +kernel
theorem wl_X6_act_90 : Cond.fieldLink RX6 90 (TX1 1).1 (TX1 1).2.1 (TX1 1).2.2.1 ∈ wsX6_act := by decide +kernel
theorem wl_X6_act_111 : Cond.fieldLink RX6 111 (TX1 2).1 (TX1 2).2.1 (TX1 2).2.2.1 ∈ wsX6_act := by decide +kernel
theorem wl_X6_act_114 : Cond.fieldLink RX6 114 (TX0 0).1 (TX0 0).2.1 (TX0 0).2.2.1 ∈ wsX6_act := by decide +kernel
theorem wl_X6_act_117 : Cond.fieldLink RX6 117 (TX0 1).1 (TX0 1).2.1 (TX0 1).2.2.1 ∈ wsX6_act := by decide +kernel
theorem wl_X6_act_120 : Cond.fieldLink RX6 120 (TX0 2).1 (TX0 2).2.1 (TX0 2).2.2.1 ∈ wsX6_act := by decide +kernel
theorem wl_X6_act_123 : Cond.fieldLink RX6 123 (TX0 3).1 (TX0 3).2.1 (TX0 3).2.2.1 ∈ wsX6_act := by decide +kernel
theorem wl_X6_act_150 : Cond.fieldLink RX6 150 (TX1 3).1 (TX1 3).2.1 (TX1 3).2.2.1 ∈ wsX6_act := by decide +kernel
theorem wl_X6_act_269 : Cond.fieldLink RX6 269 (TX4 0).1 (TX4 0).2.1 (TX4 0).2.2.1 ∈ wsX6_act := by decide +kernel
theorem wi_X6_act_X0 : ∀ w ∈ u_ws RX0 TX0 4, w ∈ wsX6_act := by decide +kernel
theorem wi_X6_act_X1 : ∀ w ∈ u_ws RX1 TX1 4, w ∈ wsX6_act := by decide +kernel
theorem wi_X6_act_X4 : ∀ w ∈ u_ws RX4 TX4 3, w ∈ wsX6_act := by decide +kernel
theorem wi_X6_act_X6 : ∀ w ∈ u_ws RX6 TX6 9, w ∈ wsX6_act := by decide +kernel
def E_X6_act (Γ : jΓ) (Q : jPost) : Prop := Γ.2.2.2.2.2.2.2.2.2.2.1 = 7 ∧ Γ.2.2.2.2.2.2.2.2.2.2.2.1 = vwCl ∧ jC Γ cX6_act RX6 "act" (some .boolean) wsX6_act 2 43 0 0 ∧ jR Γ Q 0 0
theorem oo_X6_act_0 {Γ : jΓ} {Q : jPost} (E : E_X6_act Γ Q) : jSA Γ Q 0 (o_aload 1) 1 := so_aload_n E.2.2.1 rfl dX6_act_0
theorem oo_X6_act_1 {Γ : jΓ} {Q : jPost} (E : E_X6_act Γ Q) : jSA Γ Q 1 (o_getf 0 0) 3 := so_getf (ci := 0) E.2.2.1 wi_X6_act_X0 (by rw [E.2.1]; rfl) 0 (by decide) wl_X6_act_114 dX6_act_1
theorem oo_X6_act_4 {Γ : jΓ} {Q : jPost} (E : E_X6_act Γ Q) : jSA Γ Q 4 (o_aload 1) 1 := so_aload_n E.2.2.1 rfl dX6_act_4
theorem oo_X6_act_5 {Γ : jΓ} {Q : jPost} (E : E_X6_act Γ Q) : jSA Γ Q 5 (o_getf 0 1) 3 := so_getf (ci := 0) E.2.2.1 wi_X6_act_X0 (by rw [E.2.1]; rfl) 1 (by decide) wl_X6_act_117 dX6_act_5
theorem oo_X6_act_8 {Γ : jΓ} {Q : jPost} (E : E_X6_act Γ Q) : jSA Γ Q 8 (o_call 2 T_X6_placeOf) 3 := so_callS E.2.2.1 gX6_act_X6_placeOf (by decide +kernel) rfl (by rw [E.2.1]; exact m_X6_placeOf _) (by decide) (by decide) dX6_act_8
theorem oo_X6_act_11 {Γ : jΓ} {Q : jPost} (E : E_X6_act Γ Q) : jSA Γ Q 11 (o_istore 2) 1 := so_istore_n E.2.2.1 rfl (by rw [E.1]; decide) dX6_act_11
theorem oo_X6_act_12 {Γ : jΓ} {Q : jPost} (E : E_X6_act Γ Q) : jSA Γ Q 12 (o_iload 2) 1 := so_iload_n E.2.2.1 rfl dX6_act_12
theorem oo_X6_act_13 {Γ : jΓ} {Q : jPost} (E : E_X6_act Γ Q) : jSA Γ Q 13 (o_ifge 18) 3 := so_ifge E.2.2.1 (by decide) dX6_act_13
theorem oo_X6_act_16 {Γ : jΓ} {Q : jPost} (E : E_X6_act Γ Q) : jSA Γ Q 16 (o_ic (0)) 1 := so_iconst E.2.2.1 rfl dX6_act_16
theorem oo_X6_act_17 {Γ : jΓ} {Q : jPost} (E : E_X6_act Γ Q) : jSA Γ Q 17 (o_iretz) 1 := so_iretz E.2.2.1 E.2.2.2 dX6_act_17
theorem oo_X6_act_18 {Γ : jΓ} {Q : jPost} (E : E_X6_act Γ Q) : jSA Γ Q 18 (o_aload 0) 1 := so_aload_n E.2.2.1 rfl dX6_act_18
theorem oo_X6_act_19 {Γ : jΓ} {Q : jPost} (E : E_X6_act Γ Q) : jSA Γ Q 19 (o_getf 6 0) 3 := so_getf (ci := 6) E.2.2.1 wi_X6_act_X6 (by rw [E.2.1]; rfl) 0 (by decide) wl_X6_act_12 dX6_act_19
theorem oo_X6_act_22 {Γ : jΓ} {Q : jPost} (E : E_X6_act Γ Q) : jSA Γ Q 22 (o_getf 1 2) 3 := so_getf (ci := 1) E.2.2.1 wi_X6_act_X1 (by rw [E.2.1]; rfl) 2 (by decide) wl_X6_act_111 dX6_act_22
theorem oo_X6_act_25 {Γ : jΓ} {Q : jPost} (E : E_X6_act Γ Q) : jSA Γ Q 25 (o_iload 2) 1 := so_iload_n E.2.2.1 rfl dX6_act_25
theorem oo_X6_act_26 {Γ : jΓ} {Q : jPost} (E : E_X6_act Γ Q) : jSA Γ Q 26 (o_iald) 1 := so_iald E.2.2.1 dX6_act_26
theorem oo_X6_act_27 {Γ : jΓ} {Q : jPost} (E : E_X6_act Γ Q) : jSA Γ Q 27 (o_istore 3) 1 := so_istore_n E.2.2.1 rfl (by rw [E.1]; decide) dX6_act_27
theorem oo_X6_act_28 {Γ : jΓ} {Q : jPost} (E : E_X6_act Γ Q) : jSA Γ Q 28 (o_aload 0) 1 := so_aload_n E.2.2.1 rfl dX6_act_28
theorem oo_X6_act_29 {Γ : jΓ} {Q : jPost} (E : E_X6_act Γ Q) : jSA Γ Q 29 (o_getf 6 0) 3 := so_getf (ci := 6) E.2.2.1 wi_X6_act_X6 (by rw [E.2.1]; rfl) 0 (by decide) wl_X6_act_12 dX6_act_29
theorem oo_X6_act_32 {Γ : jΓ} {Q : jPost} (E : E_X6_act Γ Q) : jSA Γ Q 32 (o_aload 1) 1 := so_aload_n E.2.2.1 rfl dX6_act_32
theorem oo_X6_act_33 {Γ : jΓ} {Q : jPost} (E : E_X6_act Γ Q) : jSA Γ Q 33 (o_getf 0 2) 3 := so_getf (ci := 0) E.2.2.1 wi_X6_act_X0 (by rw [E.2.1]; rfl) 2 (by decide) wl_X6_act_120 dX6_act_33
theorem oo_X6_act_36 {Γ : jΓ} {Q : jPost} (E : E_X6_act Γ Q) : jSA Γ Q 36 (o_aload 0) 1 := so_aload_n E.2.2.1 rfl dX6_act_36
theorem oo_X6_act_37 {Γ : jΓ} {Q : jPost} (E : E_X6_act Γ Q) : jSA Γ Q 37 (o_getf 6 1) 3 := so_getf (ci := 6) E.2.2.1 wi_X6_act_X6 (by rw [E.2.1]; rfl) 1 (by decide) wl_X6_act_19 dX6_act_37
theorem oo_X6_act_40 {Γ : jΓ} {Q : jPost} (E : E_X6_act Γ Q) : jSA Γ Q 40 (o_getf 4 0) 3 := so_getf (ci := 4) E.2.2.1 wi_X6_act_X4 (by rw [E.2.1]; rfl) 0 (by decide) wl_X6_act_269 dX6_act_40
theorem oo_X6_act_43 {Γ : jΓ} {Q : jPost} (E : E_X6_act Γ Q) : jSA Γ Q 43 (o_aload 1) 1 := so_aload_n E.2.2.1 rfl dX6_act_43
theorem oo_X6_act_44 {Γ : jΓ} {Q : jPost} (E : E_X6_act Γ Q) : jSA Γ Q 44 (o_getf 0 3) 3 := so_getf (ci := 0) E.2.2.1 wi_X6_act_X0 (by rw [E.2.1]; rfl) 3 (by decide) wl_X6_act_123 dX6_act_44
theorem oo_X6_act_47 {Γ : jΓ} {Q : jPost} (E : E_X6_act Γ Q) : jSA Γ Q 47 (o_aald 4) 1 := so_aald4 E.2.2.1 dX6_act_47
theorem oo_X6_act_48 {Γ : jΓ} {Q : jPost} (E : E_X6_act Γ Q) : jSA Γ Q 48 (o_iload 3) 1 := so_iload_n E.2.2.1 rfl dX6_act_48
theorem oo_X6_act_49 {Γ : jΓ} {Q : jPost} (E : E_X6_act Γ Q) : jSA Γ Q 49 (o_iald) 1 := so_iald E.2.2.1 dX6_act_49
theorem oo_X6_act_50 {Γ : jΓ} {Q : jPost} (E : E_X6_act Γ Q) : jSA Γ Q 50 (o_callV 3 1 T_X1_turned) 3 := so_callV E.2.2.1 (ci := 1) (by rw [E.2.1]; rfl) gX6_act_X1_turned (by decide +kernel) rfl (by rw [E.2.1]; exact m_X1_turned _) (by decide) (by decide) dX6_act_50
theorem oo_X6_act_53 {Γ : jΓ} {Q : jPost} (E : E_X6_act Γ Q) : jSA Γ Q 53 (o_istore 4) 2 := so_istore E.2.2.1 (by rw [E.1]; decide) dX6_act_53
theorem oo_X6_act_55 {Γ : jΓ} {Q : jPost} (E : E_X6_act Γ Q) : jSA Γ Q 55 (o_aload 1) 1 := so_aload_n E.2.2.1 rfl dX6_act_55
theorem oo_X6_act_56 {Γ : jΓ} {Q : jPost} (E : E_X6_act Γ Q) : jSA Γ Q 56 (o_getf 0 0) 3 := so_getf (ci := 0) E.2.2.1 wi_X6_act_X0 (by rw [E.2.1]; rfl) 0 (by decide) wl_X6_act_114 dX6_act_56
theorem oo_X6_act_59 {Γ : jΓ} {Q : jPost} (E : E_X6_act Γ Q) : jSA Γ Q 59 (o_aload 0) 1 := so_aload_n E.2.2.1 rfl dX6_act_59
theorem oo_X6_act_60 {Γ : jΓ} {Q : jPost} (E : E_X6_act Γ Q) : jSA Γ Q 60 (o_getf 6 0) 3 := so_getf (ci := 6) E.2.2.1 wi_X6_act_X6 (by rw [E.2.1]; rfl) 0 (by decide) wl_X6_act_12 dX6_act_60
theorem oo_X6_act_63 {Γ : jΓ} {Q : jPost} (E : E_X6_act Γ Q) : jSA Γ Q 63 (o_iload 4) 2 := so_iload E.2.2.1 dX6_act_63
theorem oo_X6_act_65 {Γ : jΓ} {Q : jPost} (E : E_X6_act Γ Q) : jSA Γ Q 65 (o_callV 2 1 T_X1_stepX) 3 := so_callV E.2.2.1 (ci := 1) (by rw [E.2.1]; rfl) gX6_act_X1_stepX (by decide +kernel) rfl (by rw [E.2.1]; exact m_X1_stepX _) (by decide) (by decide) dX6_act_65
theorem oo_X6_act_68 {Γ : jΓ} {Q : jPost} (E : E_X6_act Γ Q) : jSA Γ Q 68 (o_iadd) 1 := so_iadd E.2.2.1 dX6_act_68
theorem oo_X6_act_69 {Γ : jΓ} {Q : jPost} (E : E_X6_act Γ Q) : jSA Γ Q 69 (o_istore 5) 2 := so_istore E.2.2.1 (by rw [E.1]; decide) dX6_act_69
theorem oo_X6_act_71 {Γ : jΓ} {Q : jPost} (E : E_X6_act Γ Q) : jSA Γ Q 71 (o_aload 1) 1 := so_aload_n E.2.2.1 rfl dX6_act_71
theorem oo_X6_act_72 {Γ : jΓ} {Q : jPost} (E : E_X6_act Γ Q) : jSA Γ Q 72 (o_getf 0 1) 3 := so_getf (ci := 0) E.2.2.1 wi_X6_act_X0 (by rw [E.2.1]; rfl) 1 (by decide) wl_X6_act_117 dX6_act_72
theorem oo_X6_act_75 {Γ : jΓ} {Q : jPost} (E : E_X6_act Γ Q) : jSA Γ Q 75 (o_aload 0) 1 := so_aload_n E.2.2.1 rfl dX6_act_75
theorem oo_X6_act_76 {Γ : jΓ} {Q : jPost} (E : E_X6_act Γ Q) : jSA Γ Q 76 (o_getf 6 0) 3 := so_getf (ci := 6) E.2.2.1 wi_X6_act_X6 (by rw [E.2.1]; rfl) 0 (by decide) wl_X6_act_12 dX6_act_76
theorem oo_X6_act_79 {Γ : jΓ} {Q : jPost} (E : E_X6_act Γ Q) : jSA Γ Q 79 (o_iload 4) 2 := so_iload E.2.2.1 dX6_act_79
theorem oo_X6_act_81 {Γ : jΓ} {Q : jPost} (E : E_X6_act Γ Q) : jSA Γ Q 81 (o_callV 2 1 T_X1_stepY) 3 := so_callV E.2.2.1 (ci := 1) (by rw [E.2.1]; rfl) gX6_act_X1_stepY (by decide +kernel) rfl (by rw [E.2.1]; exact m_X1_stepY _) (by decide) (by decide) dX6_act_81
theorem oo_X6_act_84 {Γ : jΓ} {Q : jPost} (E : E_X6_act Γ Q) : jSA Γ Q 84 (o_iadd) 1 := so_iadd E.2.2.1 dX6_act_84
theorem oo_X6_act_85 {Γ : jΓ} {Q : jPost} (E : E_X6_act Γ Q) : jSA Γ Q 85 (o_istore 6) 2 := so_istore E.2.2.1 (by rw [E.1]; decide) dX6_act_85
theorem oo_X6_act_87 {Γ : jΓ} {Q : jPost} (E : E_X6_act Γ Q) : jSA Γ Q 87 (o_iload 5) 2 := so_iload E.2.2.1 dX6_act_87
theorem oo_X6_act_89 {Γ : jΓ} {Q : jPost} (E : E_X6_act Γ Q) : jSA Γ Q 89 (o_iload 6) 2 := so_iload E.2.2.1 dX6_act_89
theorem oo_X6_act_91 {Γ : jΓ} {Q : jPost} (E : E_X6_act Γ Q) : jSA Γ Q 91 (o_call 2 T_X6_isOn) 3 := so_callS E.2.2.1 gX6_act_X6_isOn (by decide +kernel) rfl (by rw [E.2.1]; exact m_X6_isOn _) (by decide) (by decide) dX6_act_91
theorem oo_X6_act_94 {Γ : jΓ} {Q : jPost} (E : E_X6_act Γ Q) : jSA Γ Q 94 (o_ifne 99) 3 := so_ifne E.2.2.1 (by decide) dX6_act_94
theorem oo_X6_act_97 {Γ : jΓ} {Q : jPost} (E : E_X6_act Γ Q) : jSA Γ Q 97 (o_ic (0)) 1 := so_iconst E.2.2.1 rfl dX6_act_97
theorem oo_X6_act_98 {Γ : jΓ} {Q : jPost} (E : E_X6_act Γ Q) : jSA Γ Q 98 (o_iretz) 1 := so_iretz E.2.2.1 E.2.2.2 dX6_act_98
theorem oo_X6_act_99 {Γ : jΓ} {Q : jPost} (E : E_X6_act Γ Q) : jSA Γ Q 99 (o_aload 0) 1 := so_aload_n E.2.2.1 rfl dX6_act_99
theorem oo_X6_act_100 {Γ : jΓ} {Q : jPost} (E : E_X6_act Γ Q) : jSA Γ Q 100 (o_getf 6 0) 3 := so_getf (ci := 6) E.2.2.1 wi_X6_act_X6 (by rw [E.2.1]; rfl) 0 (by decide) wl_X6_act_12 dX6_act_100
theorem oo_X6_act_103 {Γ : jΓ} {Q : jPost} (E : E_X6_act Γ Q) : jSA Γ Q 103 (o_getf 1 2) 3 := so_getf (ci := 1) E.2.2.1 wi_X6_act_X1 (by rw [E.2.1]; rfl) 2 (by decide) wl_X6_act_111 dX6_act_103
theorem oo_X6_act_106 {Γ : jΓ} {Q : jPost} (E : E_X6_act Γ Q) : jSA Γ Q 106 (o_iload 2) 1 := so_iload_n E.2.2.1 rfl dX6_act_106
theorem oo_X6_act_107 {Γ : jΓ} {Q : jPost} (E : E_X6_act Γ Q) : jSA Γ Q 107 (o_iload 3) 1 := so_iload_n E.2.2.1 rfl dX6_act_107
theorem oo_X6_act_108 {Γ : jΓ} {Q : jPost} (E : E_X6_act Γ Q) : jSA Γ Q 108 (o_ic (1)) 1 := so_iconst E.2.2.1 rfl dX6_act_108
theorem oo_X6_act_109 {Γ : jΓ} {Q : jPost} (E : E_X6_act Γ Q) : jSA Γ Q 109 (o_iadd) 1 := so_iadd E.2.2.1 dX6_act_109
theorem oo_X6_act_110 {Γ : jΓ} {Q : jPost} (E : E_X6_act Γ Q) : jSA Γ Q 110 (o_aload 0) 1 := so_aload_n E.2.2.1 rfl dX6_act_110
theorem oo_X6_act_111 {Γ : jΓ} {Q : jPost} (E : E_X6_act Γ Q) : jSA Γ Q 111 (o_getf 6 0) 3 := so_getf (ci := 6) E.2.2.1 wi_X6_act_X6 (by rw [E.2.1]; rfl) 0 (by decide) wl_X6_act_12 dX6_act_111
theorem oo_X6_act_114 {Γ : jΓ} {Q : jPost} (E : E_X6_act Γ Q) : jSA Γ Q 114 (o_getf 1 1) 3 := so_getf (ci := 1) E.2.2.1 wi_X6_act_X1 (by rw [E.2.1]; rfl) 1 (by decide) wl_X6_act_90 dX6_act_114
theorem oo_X6_act_117 {Γ : jΓ} {Q : jPost} (E : E_X6_act Γ Q) : jSA Γ Q 117 (o_icge 126) 3 := so_icge E.2.2.1 (by decide) dX6_act_117
theorem oo_X6_act_120 {Γ : jΓ} {Q : jPost} (E : E_X6_act Γ Q) : jSA Γ Q 120 (o_iload 3) 1 := so_iload_n E.2.2.1 rfl dX6_act_120
theorem oo_X6_act_121 {Γ : jΓ} {Q : jPost} (E : E_X6_act Γ Q) : jSA Γ Q 121 (o_ic (1)) 1 := so_iconst E.2.2.1 rfl dX6_act_121
theorem oo_X6_act_122 {Γ : jΓ} {Q : jPost} (E : E_X6_act Γ Q) : jSA Γ Q 122 (o_iadd) 1 := so_iadd E.2.2.1 dX6_act_122
theorem oo_X6_act_123 {Γ : jΓ} {Q : jPost} (E : E_X6_act Γ Q) : jSA Γ Q 123 (o_goto 127) 3 := so_goto E.2.2.1 (by decide) dX6_act_123
theorem oo_X6_act_126 {Γ : jΓ} {Q : jPost} (E : E_X6_act Γ Q) : jSA Γ Q 126 (o_ic (0)) 1 := so_iconst E.2.2.1 rfl dX6_act_126
theorem oo_X6_act_127 {Γ : jΓ} {Q : jPost} (E : E_X6_act Γ Q) : jSA Γ Q 127 (o_iast) 1 := so_iast E.2.2.1 dX6_act_127
theorem oo_X6_act_128 {Γ : jΓ} {Q : jPost} (E : E_X6_act Γ Q) : jSA Γ Q 128 (o_aload 0) 1 := so_aload_n E.2.2.1 rfl dX6_act_128
theorem oo_X6_act_129 {Γ : jΓ} {Q : jPost} (E : E_X6_act Γ Q) : jSA Γ Q 129 (o_getf 6 0) 3 := so_getf (ci := 6) E.2.2.1 wi_X6_act_X6 (by rw [E.2.1]; rfl) 0 (by decide) wl_X6_act_12 dX6_act_129
theorem oo_X6_act_132 {Γ : jΓ} {Q : jPost} (E : E_X6_act Γ Q) : jSA Γ Q 132 (o_getf 1 3) 3 := so_getf (ci := 1) E.2.2.1 wi_X6_act_X1 (by rw [E.2.1]; rfl) 3 (by decide) wl_X6_act_150 dX6_act_132
theorem oo_X6_act_135 {Γ : jΓ} {Q : jPost} (E : E_X6_act Γ Q) : jSA Γ Q 135 (o_iload 2) 1 := so_iload_n E.2.2.1 rfl dX6_act_135
theorem oo_X6_act_136 {Γ : jΓ} {Q : jPost} (E : E_X6_act Γ Q) : jSA Γ Q 136 (o_dup2) 1 := so_dup2 E.2.2.1 dX6_act_136
theorem oo_X6_act_137 {Γ : jΓ} {Q : jPost} (E : E_X6_act Γ Q) : jSA Γ Q 137 (o_iald) 1 := so_iald E.2.2.1 dX6_act_137
theorem oo_X6_act_138 {Γ : jΓ} {Q : jPost} (E : E_X6_act Γ Q) : jSA Γ Q 138 (o_ic (1)) 1 := so_iconst E.2.2.1 rfl dX6_act_138
theorem oo_X6_act_139 {Γ : jΓ} {Q : jPost} (E : E_X6_act Γ Q) : jSA Γ Q 139 (o_iadd) 1 := so_iadd E.2.2.1 dX6_act_139
theorem oo_X6_act_140 {Γ : jΓ} {Q : jPost} (E : E_X6_act Γ Q) : jSA Γ Q 140 (o_iast) 1 := so_iast E.2.2.1 dX6_act_140
theorem oo_X6_act_141 {Γ : jΓ} {Q : jPost} (E : E_X6_act Γ Q) : jSA Γ Q 141 (o_aload 1) 1 := so_aload_n E.2.2.1 rfl dX6_act_141
theorem oo_X6_act_142 {Γ : jΓ} {Q : jPost} (E : E_X6_act Γ Q) : jSA Γ Q 142 (o_iload 5) 2 := so_iload E.2.2.1 dX6_act_142
theorem oo_X6_act_144 {Γ : jΓ} {Q : jPost} (E : E_X6_act Γ Q) : jSA Γ Q 144 (o_iload 6) 2 := so_iload E.2.2.1 dX6_act_144
theorem oo_X6_act_146 {Γ : jΓ} {Q : jPost} (E : E_X6_act Γ Q) : jSA Γ Q 146 (o_iload 4) 2 := so_iload E.2.2.1 dX6_act_146
theorem oo_X6_act_148 {Γ : jΓ} {Q : jPost} (E : E_X6_act Γ Q) : jSA Γ Q 148 (o_aload 1) 1 := so_aload_n E.2.2.1 rfl dX6_act_148
theorem oo_X6_act_149 {Γ : jΓ} {Q : jPost} (E : E_X6_act Γ Q) : jSA Γ Q 149 (o_getf 0 3) 3 := so_getf (ci := 0) E.2.2.1 wi_X6_act_X0 (by rw [E.2.1]; rfl) 3 (by decide) wl_X6_act_123 dX6_act_149
theorem oo_X6_act_152 {Γ : jΓ} {Q : jPost} (E : E_X6_act Γ Q) : jSA Γ Q 152 (o_callV 5 0 T_X0_put) 3 := so_callV E.2.2.1 (ci := 0) (by rw [E.2.1]; rfl) gX6_act_X0_put (by decide +kernel) rfl (by rw [E.2.1]; exact m_X0_put _) (by decide) (by decide) dX6_act_152
theorem oo_X6_act_155 {Γ : jΓ} {Q : jPost} (E : E_X6_act Γ Q) : jSA Γ Q 155 (o_ic (1)) 1 := so_iconst E.2.2.1 rfl dX6_act_155
theorem oo_X6_act_156 {Γ : jΓ} {Q : jPost} (E : E_X6_act Γ Q) : jSA Γ Q 156 (o_iretz) 1 := so_iretz E.2.2.1 E.2.2.2 dX6_act_156
theorem ok_X6_act_0 {Γ : jΓ} {Q : jPost} (E : E_X6_act Γ Q) : jSS Γ Q 0 sg_X6_act_0 := ⟨oo_X6_act_0 E, oo_X6_act_1 E, oo_X6_act_4 E, oo_X6_act_5 E, oo_X6_act_8 E, oo_X6_act_11 E, oo_X6_act_12 E, oo_X6_act_13 E, oo_X6_act_16 E, oo_X6_act_17 E, trivial⟩
theorem ok_X6_act_18 {Γ : jΓ} {Q : jPost} (E : E_X6_act Γ Q) : jSS Γ Q 18 sg_X6_act_18 := ⟨oo_X6_act_18 E, oo_X6_act_19 E, oo_X6_act_22 E, oo_X6_act_25 E, oo_X6_act_26 E, oo_X6_act_27 E, oo_X6_act_28 E, oo_X6_act_29 E, oo_X6_act_32 E, oo_X6_act_33 E, oo_X6_act_36 E, oo_X6_act_37 E, oo_X6_act_40 E, oo_X6_act_43 E, oo_X6_act_44 E, oo_X6_act_47 E, oo_X6_act_48 E, oo_X6_act_49 E, oo_X6_act_50 E, oo_X6_act_53 E, oo_X6_act_55 E, oo_X6_act_56 E, oo_X6_act_59 E, oo_X6_act_60 E, oo_X6_act_63 E, oo_X6_act_65 E, oo_X6_act_68 E, oo_X6_act_69 E, oo_X6_act_71 E, oo_X6_act_72 E, oo_X6_act_75 E, oo_X6_act_76 E, oo_X6_act_79 E, oo_X6_act_81 E, oo_X6_act_84 E, oo_X6_act_85 E, oo_X6_act_87 E, oo_X6_act_89 E, oo_X6_act_91 E, oo_X6_act_94 E, oo_X6_act_97 E, oo_X6_act_98 E, trivial⟩
theorem ok_X6_act_99 {Γ : jΓ} {Q : jPost} (E : E_X6_act Γ Q) : jSS Γ Q 99 sg_X6_act_99 := ⟨oo_X6_act_99 E, oo_X6_act_100 E, oo_X6_act_103 E, oo_X6_act_106 E, oo_X6_act_107 E, oo_X6_act_108 E, oo_X6_act_109 E, oo_X6_act_110 E, oo_X6_act_111 E, oo_X6_act_114 E, oo_X6_act_117 E, oo_X6_act_120 E, oo_X6_act_121 E, oo_X6_act_122 E, oo_X6_act_123 E, trivial⟩
theorem ok_X6_act_126 {Γ : jΓ} {Q : jPost} (E : E_X6_act Γ Q) : jSS Γ Q 126 sg_X6_act_126 := ⟨oo_X6_act_126 E, oo_X6_act_127 E, oo_X6_act_128 E, oo_X6_act_129 E, oo_X6_act_132 E, oo_X6_act_135 E, oo_X6_act_136 E, oo_X6_act_137 E, oo_X6_act_138 E, oo_X6_act_139 E, oo_X6_act_140 E, oo_X6_act_141 E, oo_X6_act_142 E, oo_X6_act_144 E, oo_X6_act_146 E, oo_X6_act_148 E, oo_X6_act_149 E, oo_X6_act_152 E, oo_X6_act_155 E, oo_X6_act_156 E, trivial⟩
theorem ok_X6_act_127 {Γ : jΓ} {Q : jPost} (E : E_X6_act Γ Q) : jSS Γ Q 127 sg_X6_act_127 := ⟨oo_X6_act_127 E, oo_X6_act_128 E, oo_X6_act_129 E, oo_X6_act_132 E, oo_X6_act_135 E, oo_X6_act_136 E, oo_X6_act_137 E, oo_X6_act_138 E, oo_X6_act_139 E, oo_X6_act_140 E, oo_X6_act_141 E, oo_X6_act_142 E, oo_X6_act_144 E, oo_X6_act_146 E, oo_X6_act_148 E, oo_X6_act_149 E, oo_X6_act_152 E, oo_X6_act_155 E, oo_X6_act_156 E, trivial⟩
theorem okc_X6_act {Γ : jΓ} {Q : jPost} (E : E_X6_act Γ Q) (t : Nat) : jSS Γ Q t (cd_X6_act t) := by
  unfold cd_X6_act
  split
  · exact ok_X6_act_18 E
  · exact ok_X6_act_99 E
  · exact ok_X6_act_126 E
  · exact ok_X6_act_127 E
  · trivial
theorem m_X6_act_of (l : Launch) (hv : ∀ (G : jGt) (Q : jPost) (vs : List Value) (K : List jK) (h : jM), jHd cd_X6_act G Q sg_X6_act_0 0 → T_X6_act vs K h Q → (lg_sl vs).length ≤ 7 ∧ G 0 (jinit vs 7) [] K h 0 0) : jHolds vwCl l yX6_act wsX6_act 2 43 0 0 T_X6_act := by
  refine jMet (cc := cX6_act) (maxL := 7) (rt := (some .boolean)) (by decide +kernel) rfl (fun Γ Q vs K h hl hn hcl C hR hT => hv (jG Γ) Q vs K h ?_ hT)
  · exact fun n L st K h ce sl => jwp_ok (okc_X6_act ⟨hn, hcl, C, hR⟩) n sg_X6_act_0 0 (ok_X6_act_0 ⟨hn, hcl, C, hR⟩) L st K h ce sl
set_option maxHeartbeats 4000000 in
set_option maxRecDepth 100000 in
theorem v_X6_act {G : jGt} {Q : jPost} {K : List jK} {h : jM} {a : Nat} (hT : (∃ i, i < 6 ∧ a = 12 + i) ∧ jX K ∧ flOK h ∧ antOK h a ∧ (onF (cXn h a) (cYn h a) → Q (some (.int 1)) K (cActM h a)) ∧ (¬ onF (cXn h a) (cYn h a) → Q (some (.int 0)) K h)) (H0 : jHd cd_X6_act G Q sg_X6_act_0 0) : G 0 [some (.ref 0), some (.ref a), none, none, none, none, none] [] K h 0 0 := by
  obtain ⟨⟨i, hi, rfl⟩, hX, ⟨⟨hn1, hn2⟩, hcel, htur⟩, ⟨hon, hdir, hrul⟩, hT1, hT0⟩ := hT
  have ha : isAnt (12 + i) := by unfold isAnt; omega
  have hr : (h (12 + i) 3).toNatClampNeg < 4 := vp_in_clamp hrul
  have hp := jpl_in hon
  have hp2 : 0 ≤ jpl (h (12 + i) 0) (h (12 + i) 1) := by
    rw [Int32.le_iff_toInt_le]; exact (vp_in_iff.mp hp).1
  have hc := hcel _ (vp_in_clamp hp)
  have hci : vp_in (h 2 (jpl (h (12 + i) 0) (h (12 + i) 1)).toNatClampNeg) 12 := vp_in_iff.mpr ⟨hc.1, by omega⟩
  have htr := htur _ (h 2 (jpl (h (12 + i) 0) (h (12 + i) 1)).toNatClampNeg).toNatClampNeg hr (by rw [clamp_int hc.1]; exact hc.2)
  have hd1 : vp_in (cDr h (12 + i)) (jdirsN h) := by
    unfold cDr
    rw [jdirs_N]
    exact jturn_in (jdirsN_le h).2 hdir htr
  have hd2 : vp_in (cDr h (12 + i)) (if h 1 0 = 1 then 6 else 4) := hd1
  unfold cDr cCl cP at hd2
  have n2 : ¬ 12 + i = 2 := by omega
  have n3 : ¬ 12 + i = 3 := by omega
  refine H0 120 _ _ _ _ _ _ ?_
  simp only [sg_X6_act_0, sg_X6_act_18, sg_X6_act_99, sg_X6_act_126, sg_X6_act_127, cd_X6_act, jwp, o_ic, o_lc, o_iload, o_lload, o_aload, o_istore, o_lstore, o_astore, o_iinc, o_pop, o_dup, o_dup2, o_iadd, o_isub, o_imul, o_iand, o_ior, o_ishl, o_ladd, o_lmul, o_land, o_lor, o_idiv, o_irem, o_ineg, o_i2l, o_l2i, o_i2b, o_i2s, o_lushr, o_lshr, o_lshl, o_lcmp, o_ifeq, o_ifne, o_iflt, o_ifge, o_ifgt, o_ifle, o_iceq, o_icne, o_iclt, o_icge, o_icgt, o_icle, o_goto, o_tsw, jsw, o_lsw, jlk, o_getf, o_putf, o_putz, o_iald, o_zald, o_iast, o_zast, o_aald, o_alen, o_gets, o_zld, o_zlen, o_cpy, o_call, o_callV, o_ireti, o_iretz, o_lret, o_vret, jg, js, jkp, jkill, jsp, jcs, jfw, jov, Value.category, Option.toList_some, Option.toList_none, List.nil_append, List.cons_append, List.append_nil, Nat.reduceAdd, true_and, and_true, jb0, jb01, jb1, jem, true_or, or_true, Classical.not_not, forall_const, List.length_cons, List.length_nil, Nat.reduceLeDiff, Nat.zero_le, Nat.reduceLT, hX, kx_0_0 hX, kx_0_1 hX, kx_0_2 hX, kx_0_3 hX, kx_0_4 hX, kx_0_5 hX, kx_0_6 hX, kx_0_7 hX, kx_0_8 hX, kxo_0 hX, kx_1_0 hX, kx_1_1 hX, kx_1_2 hX, kx_1_3 hX, kxo_1 hX, kx_4_0 hX, kx_4_1 hX, kx_4_2 hX, kxo_4 hX, kx_19_0 hX, kx_19_1 hX, kx_19_2 hX, kx_19_3 hX, kx_19_4 hX, kxo_19 hX, kx_24_0 hX, kx_24_1 hX, kx_24_2 hX, kx_24_3 hX, kx_24_4 hX, kx_24_5 hX, kx_24_6 hX, kxo_24 hX, kxa_2 hX, kxa_3 hX, kxa_6 hX, kxa_7 hX, kxa_8 hX, kxa_9 hX, kxa_10 hX, kxa_18 hX, kxa_20 hX, kxa_21 hX, kxa_22 hX, kxa_23 hX, kxa_26 hX, kxa_27 hX, kxr_5 hX, kxr_11 hX, kxr_28 hX, kxn_0 hX ha, kxn_1 hX ha, kxn_2 hX ha, kxn_3 hX ha, kxn_o hX ha, ha, T_X6_placeOf, T_X1_turned, T_X1_stepX, T_X1_stepY, T_X6_isOn, T_X0_put, kx_rows hr, kx_rowl hX hr, hp, hp2, hrul, hci, hd2, up2_n n2, up2_n n3, up2_n (show ¬ 1 = 2 by decide), up2_n (show ¬ 1 = 3 by decide), up2_n (show ¬ 3 = 2 by decide), not_true_eq_false, false_imp_iff]
  unfold cXn cYn cActM cXn cYn cDr cCl cP at hT1
  unfold cXn cYn cDr cCl cP at hT0
  refine ⟨fun q => ⟨fun c => ?_, fun c => ?_⟩, fun q => ?_⟩
  · have := hT1 q
    rw [if_neg (Int32.not_lt.mpr c)] at this
    exact this
  · have := hT1 q
    rw [if_pos (Int32.not_le.mp c)] at this
    exact this
  · exact hT0 q
theorem m_X6_act (l : Launch) : jHolds vwCl l yX6_act wsX6_act 2 43 0 0 T_X6_act := by
  refine m_X6_act_of l (fun G Q vs K h H0 hT => ?_)
  unfold T_X6_act at hT
  split at hT
  · obtain ⟨rfl, hT⟩ := hT
    exact ⟨Nat.le_of_ble_eq_true rfl, v_X6_act hT H0⟩
  · exact hT.elim

/-! X6_actBack -/
def T_X6_actBack : jT := fun vs K h Q => match vs with
  | [.ref r0, .ref a] => r0 = 0 ∧ ((∃ i, i < 6 ∧ a = 12 + i) ∧ jX K ∧ flOK h ∧ antOK h a ∧ (onF (cBX h a) (cBY h a) → Q (some (.int 1)) K (cBackM h a)) ∧ (¬ onF (cBX h a) (cBY h a) → Q (some (.int 0)) K h))
  | _ => False
def sg_X6_actBack_0 : jS := [(o_aload 1, 1), (o_getf 0 0, 3), (o_aload 0, 1), (o_getf 6 0, 3), (o_aload 1, 1), (o_getf 0 2, 3), (o_callV 2 1 T_X1_stepX, 3), (o_isub, 1), (o_istore 2, 1), (o_aload 1, 1), (o_getf 0 1, 3), (o_aload 0, 1), (o_getf 6 0, 3), (o_aload 1, 1), (o_getf 0 2, 3), (o_callV 2 1 T_X1_stepY, 3), (o_isub, 1), (o_istore 3, 1), (o_iload 2, 1), (o_iload 3, 1), (o_call 2 T_X6_placeOf, 3), (o_istore 4, 2), (o_iload 4, 2), (o_ifge 48, 3), (o_ic (0), 1), (o_iretz, 1)]
def sg_X6_actBack_48 : jS := [(o_aload 0, 1), (o_getf 6 0, 3), (o_getf 1 2, 3), (o_iload 4, 2), (o_iald, 1), (o_ifle 76, 3), (o_aload 0, 1), (o_getf 6 0, 3), (o_getf 1 2, 3), (o_iload 4, 2), (o_iald, 1), (o_ic (1), 1), (o_isub, 1), (o_goto 85, 3)]
def sg_X6_actBack_76 : jS := [(o_aload 0, 1), (o_getf 6 0, 3), (o_getf 1 1, 3), (o_ic (1), 1), (o_isub, 1), (o_istore 5, 2), (o_aload 0, 1), (o_getf 6 0, 3), (o_aload 1, 1), (o_getf 0 2, 3), (o_aload 0, 1), (o_getf 6 1, 3), (o_getf 4 0, 3), (o_aload 1, 1), (o_getf 0 3, 3), (o_aald 4, 1), (o_iload 5, 2), (o_iald, 1), (o_ineg, 1), (o_callV 3 1 T_X1_turned, 3), (o_istore 6, 2), (o_aload 0, 1), (o_getf 6 0, 3), (o_getf 1 2, 3), (o_iload 4, 2), (o_iload 5, 2), (o_iast, 1), (o_aload 0, 1), (o_getf 6 0, 3), (o_getf 1 3, 3), (o_iload 4, 2), (o_dup2, 1), (o_iald, 1), (o_ic (1), 1), (o_isub, 1), (o_iast, 1), (o_aload 1, 1), (o_iload 2, 1), (o_iload 3, 1), (o_iload 6, 2), (o_aload 1, 1), (o_getf 0 3, 3), (o_callV 5 0 T_X0_put, 3), (o_ic (1), 1), (o_iretz, 1)]
def sg_X6_actBack_85 : jS := [(o_istore 5, 2), (o_aload 0, 1), (o_getf 6 0, 3), (o_aload 1, 1), (o_getf 0 2, 3), (o_aload 0, 1), (o_getf 6 1, 3), (o_getf 4 0, 3), (o_aload 1, 1), (o_getf 0 3, 3), (o_aald 4, 1), (o_iload 5, 2), (o_iald, 1), (o_ineg, 1), (o_callV 3 1 T_X1_turned, 3), (o_istore 6, 2), (o_aload 0, 1), (o_getf 6 0, 3), (o_getf 1 2, 3), (o_iload 4, 2), (o_iload 5, 2), (o_iast, 1), (o_aload 0, 1), (o_getf 6 0, 3), (o_getf 1 3, 3), (o_iload 4, 2), (o_dup2, 1), (o_iald, 1), (o_ic (1), 1), (o_isub, 1), (o_iast, 1), (o_aload 1, 1), (o_iload 2, 1), (o_iload 3, 1), (o_iload 6, 2), (o_aload 1, 1), (o_getf 0 3, 3), (o_callV 5 0 T_X0_put, 3), (o_ic (1), 1), (o_iretz, 1)]
def cd_X6_actBack : Nat → jS := fun t => match t with
  | 48 => sg_X6_actBack_48
  | 76 => sg_X6_actBack_76
  | 85 => sg_X6_actBack_85
  | _ => []
theorem wl_X6_actBack_12 : Cond.fieldLink RX6 12 (TX6 0).1 (TX6 0).2.1 (TX6 0).2.2.1 ∈ wsX6_actBack := by decide +kernel
theorem wl_X6_actBack_19 : Cond.fieldLink RX6 19 (TX6 1).1 (TX6 1).2.1 (TX6 1).2.2.1 ∈ wsX6_actBack := by decide +kernel
theorem wl_X6_actBack_90 : Cond.fieldLink RX6 90 (TX1 1).1 (TX1 1).2.1 (TX1 1).2.2.1 ∈ wsX6_actBack := by decide +kernel
theorem wl_X6_actBack_111 : Cond.fieldLink RX6 111 (TX1 2).1 (TX1 2).2.1 (TX1 2).2.2.1 ∈ wsX6_actBack := by decide +kernel
theorem wl_X6_actBack_114 : Cond.fieldLink RX6 114 (TX0 0).1 (TX0 0).2.1 (TX0 0).2.2.1 ∈ wsX6_actBack := by decide +kernel
theorem wl_X6_actBack_117 : Cond.fieldLink RX6 117 (TX0 1).1 (TX0 1).2.1 (TX0 1).2.2.1 ∈ wsX6_actBack := by decide +kernel
theorem wl_X6_actBack_120 : Cond.fieldLink RX6 120 (TX0 2).1 (TX0 2).2.1 (TX0 2).2.2.1 ∈ wsX6_actBack := by decide +kernel
theorem wl_X6_actBack_123 : Cond.fieldLink RX6 123 (TX0 3).1 (TX0 3).2.1 (TX0 3).2.2.1 ∈ wsX6_actBack := by decide +kernel
theorem wl_X6_actBack_150 : Cond.fieldLink RX6 150 (TX1 3).1 (TX1 3).2.1 (TX1 3).2.2.1 ∈ wsX6_actBack := by decide +kernel
theorem wl_X6_actBack_269 : Cond.fieldLink RX6 269 (TX4 0).1 (TX4 0).2.1 (TX4 0).2.2.1 ∈ wsX6_actBack := by decide +kernel
theorem wi_X6_actBack_X0 : ∀ w ∈ u_ws RX0 TX0 4, w ∈ wsX6_actBack := by decide +kernel
theorem wi_X6_actBack_X1 : ∀ w ∈ u_ws RX1 TX1 4, w ∈ wsX6_actBack := by decide +kernel
theorem wi_X6_actBack_X4 : ∀ w ∈ u_ws RX4 TX4 3, w ∈ wsX6_actBack := by decide +kernel
theorem wi_X6_actBack_X6 : ∀ w ∈ u_ws RX6 TX6 9, w ∈ wsX6_actBack := by decide +kernel
def E_X6_actBack (Γ : jΓ) (Q : jPost) : Prop := Γ.2.2.2.2.2.2.2.2.2.2.1 = 7 ∧ Γ.2.2.2.2.2.2.2.2.2.2.2.1 = vwCl ∧ jC Γ cX6_actBack RX6 "actBack" (some .boolean) wsX6_actBack 2 43 0 0 ∧ jR Γ Q 0 0
theorem oo_X6_actBack_0 {Γ : jΓ} {Q : jPost} (E : E_X6_actBack Γ Q) : jSA Γ Q 0 (o_aload 1) 1 := so_aload_n E.2.2.1 rfl dX6_actBack_0
theorem oo_X6_actBack_1 {Γ : jΓ} {Q : jPost} (E : E_X6_actBack Γ Q) : jSA Γ Q 1 (o_getf 0 0) 3 := so_getf (ci := 0) E.2.2.1 wi_X6_actBack_X0 (by rw [E.2.1]; rfl) 0 (by decide) wl_X6_actBack_114 dX6_actBack_1
theorem oo_X6_actBack_4 {Γ : jΓ} {Q : jPost} (E : E_X6_actBack Γ Q) : jSA Γ Q 4 (o_aload 0) 1 := so_aload_n E.2.2.1 rfl dX6_actBack_4
theorem oo_X6_actBack_5 {Γ : jΓ} {Q : jPost} (E : E_X6_actBack Γ Q) : jSA Γ Q 5 (o_getf 6 0) 3 := so_getf (ci := 6) E.2.2.1 wi_X6_actBack_X6 (by rw [E.2.1]; rfl) 0 (by decide) wl_X6_actBack_12 dX6_actBack_5
theorem oo_X6_actBack_8 {Γ : jΓ} {Q : jPost} (E : E_X6_actBack Γ Q) : jSA Γ Q 8 (o_aload 1) 1 := so_aload_n E.2.2.1 rfl dX6_actBack_8
theorem oo_X6_actBack_9 {Γ : jΓ} {Q : jPost} (E : E_X6_actBack Γ Q) : jSA Γ Q 9 (o_getf 0 2) 3 := so_getf (ci := 0) E.2.2.1 wi_X6_actBack_X0 (by rw [E.2.1]; rfl) 2 (by decide) wl_X6_actBack_120 dX6_actBack_9
theorem oo_X6_actBack_12 {Γ : jΓ} {Q : jPost} (E : E_X6_actBack Γ Q) : jSA Γ Q 12 (o_callV 2 1 T_X1_stepX) 3 := so_callV E.2.2.1 (ci := 1) (by rw [E.2.1]; rfl) gX6_actBack_X1_stepX (by decide +kernel) rfl (by rw [E.2.1]; exact m_X1_stepX _) (by decide) (by decide) dX6_actBack_12
theorem oo_X6_actBack_15 {Γ : jΓ} {Q : jPost} (E : E_X6_actBack Γ Q) : jSA Γ Q 15 (o_isub) 1 := so_isub E.2.2.1 dX6_actBack_15
theorem oo_X6_actBack_16 {Γ : jΓ} {Q : jPost} (E : E_X6_actBack Γ Q) : jSA Γ Q 16 (o_istore 2) 1 := so_istore_n E.2.2.1 rfl (by rw [E.1]; decide) dX6_actBack_16
theorem oo_X6_actBack_17 {Γ : jΓ} {Q : jPost} (E : E_X6_actBack Γ Q) : jSA Γ Q 17 (o_aload 1) 1 := so_aload_n E.2.2.1 rfl dX6_actBack_17
theorem oo_X6_actBack_18 {Γ : jΓ} {Q : jPost} (E : E_X6_actBack Γ Q) : jSA Γ Q 18 (o_getf 0 1) 3 := so_getf (ci := 0) E.2.2.1 wi_X6_actBack_X0 (by rw [E.2.1]; rfl) 1 (by decide) wl_X6_actBack_117 dX6_actBack_18
theorem oo_X6_actBack_21 {Γ : jΓ} {Q : jPost} (E : E_X6_actBack Γ Q) : jSA Γ Q 21 (o_aload 0) 1 := so_aload_n E.2.2.1 rfl dX6_actBack_21
theorem oo_X6_actBack_22 {Γ : jΓ} {Q : jPost} (E : E_X6_actBack Γ Q) : jSA Γ Q 22 (o_getf 6 0) 3 := so_getf (ci := 6) E.2.2.1 wi_X6_actBack_X6 (by rw [E.2.1]; rfl) 0 (by decide) wl_X6_actBack_12 dX6_actBack_22
theorem oo_X6_actBack_25 {Γ : jΓ} {Q : jPost} (E : E_X6_actBack Γ Q) : jSA Γ Q 25 (o_aload 1) 1 := so_aload_n E.2.2.1 rfl dX6_actBack_25
theorem oo_X6_actBack_26 {Γ : jΓ} {Q : jPost} (E : E_X6_actBack Γ Q) : jSA Γ Q 26 (o_getf 0 2) 3 := so_getf (ci := 0) E.2.2.1 wi_X6_actBack_X0 (by rw [E.2.1]; rfl) 2 (by decide) wl_X6_actBack_120 dX6_actBack_26
theorem oo_X6_actBack_29 {Γ : jΓ} {Q : jPost} (E : E_X6_actBack Γ Q) : jSA Γ Q 29 (o_callV 2 1 T_X1_stepY) 3 := so_callV E.2.2.1 (ci := 1) (by rw [E.2.1]; rfl) gX6_actBack_X1_stepY (by decide +kernel) rfl (by rw [E.2.1]; exact m_X1_stepY _) (by decide) (by decide) dX6_actBack_29
theorem oo_X6_actBack_32 {Γ : jΓ} {Q : jPost} (E : E_X6_actBack Γ Q) : jSA Γ Q 32 (o_isub) 1 := so_isub E.2.2.1 dX6_actBack_32
theorem oo_X6_actBack_33 {Γ : jΓ} {Q : jPost} (E : E_X6_actBack Γ Q) : jSA Γ Q 33 (o_istore 3) 1 := so_istore_n E.2.2.1 rfl (by rw [E.1]; decide) dX6_actBack_33
theorem oo_X6_actBack_34 {Γ : jΓ} {Q : jPost} (E : E_X6_actBack Γ Q) : jSA Γ Q 34 (o_iload 2) 1 := so_iload_n E.2.2.1 rfl dX6_actBack_34
theorem oo_X6_actBack_35 {Γ : jΓ} {Q : jPost} (E : E_X6_actBack Γ Q) : jSA Γ Q 35 (o_iload 3) 1 := so_iload_n E.2.2.1 rfl dX6_actBack_35
theorem oo_X6_actBack_36 {Γ : jΓ} {Q : jPost} (E : E_X6_actBack Γ Q) : jSA Γ Q 36 (o_call 2 T_X6_placeOf) 3 := so_callS E.2.2.1 gX6_actBack_X6_placeOf (by decide +kernel) rfl (by rw [E.2.1]; exact m_X6_placeOf _) (by decide) (by decide) dX6_actBack_36
theorem oo_X6_actBack_39 {Γ : jΓ} {Q : jPost} (E : E_X6_actBack Γ Q) : jSA Γ Q 39 (o_istore 4) 2 := so_istore E.2.2.1 (by rw [E.1]; decide) dX6_actBack_39
theorem oo_X6_actBack_41 {Γ : jΓ} {Q : jPost} (E : E_X6_actBack Γ Q) : jSA Γ Q 41 (o_iload 4) 2 := so_iload E.2.2.1 dX6_actBack_41
theorem oo_X6_actBack_43 {Γ : jΓ} {Q : jPost} (E : E_X6_actBack Γ Q) : jSA Γ Q 43 (o_ifge 48) 3 := so_ifge E.2.2.1 (by decide) dX6_actBack_43
theorem oo_X6_actBack_46 {Γ : jΓ} {Q : jPost} (E : E_X6_actBack Γ Q) : jSA Γ Q 46 (o_ic (0)) 1 := so_iconst E.2.2.1 rfl dX6_actBack_46
theorem oo_X6_actBack_47 {Γ : jΓ} {Q : jPost} (E : E_X6_actBack Γ Q) : jSA Γ Q 47 (o_iretz) 1 := so_iretz E.2.2.1 E.2.2.2 dX6_actBack_47
theorem oo_X6_actBack_48 {Γ : jΓ} {Q : jPost} (E : E_X6_actBack Γ Q) : jSA Γ Q 48 (o_aload 0) 1 := so_aload_n E.2.2.1 rfl dX6_actBack_48
theorem oo_X6_actBack_49 {Γ : jΓ} {Q : jPost} (E : E_X6_actBack Γ Q) : jSA Γ Q 49 (o_getf 6 0) 3 := so_getf (ci := 6) E.2.2.1 wi_X6_actBack_X6 (by rw [E.2.1]; rfl) 0 (by decide) wl_X6_actBack_12 dX6_actBack_49
theorem oo_X6_actBack_52 {Γ : jΓ} {Q : jPost} (E : E_X6_actBack Γ Q) : jSA Γ Q 52 (o_getf 1 2) 3 := so_getf (ci := 1) E.2.2.1 wi_X6_actBack_X1 (by rw [E.2.1]; rfl) 2 (by decide) wl_X6_actBack_111 dX6_actBack_52
theorem oo_X6_actBack_55 {Γ : jΓ} {Q : jPost} (E : E_X6_actBack Γ Q) : jSA Γ Q 55 (o_iload 4) 2 := so_iload E.2.2.1 dX6_actBack_55
theorem oo_X6_actBack_57 {Γ : jΓ} {Q : jPost} (E : E_X6_actBack Γ Q) : jSA Γ Q 57 (o_iald) 1 := so_iald E.2.2.1 dX6_actBack_57
theorem oo_X6_actBack_58 {Γ : jΓ} {Q : jPost} (E : E_X6_actBack Γ Q) : jSA Γ Q 58 (o_ifle 76) 3 := so_ifle E.2.2.1 (by decide) dX6_actBack_58
theorem oo_X6_actBack_61 {Γ : jΓ} {Q : jPost} (E : E_X6_actBack Γ Q) : jSA Γ Q 61 (o_aload 0) 1 := so_aload_n E.2.2.1 rfl dX6_actBack_61
theorem oo_X6_actBack_62 {Γ : jΓ} {Q : jPost} (E : E_X6_actBack Γ Q) : jSA Γ Q 62 (o_getf 6 0) 3 := so_getf (ci := 6) E.2.2.1 wi_X6_actBack_X6 (by rw [E.2.1]; rfl) 0 (by decide) wl_X6_actBack_12 dX6_actBack_62
theorem oo_X6_actBack_65 {Γ : jΓ} {Q : jPost} (E : E_X6_actBack Γ Q) : jSA Γ Q 65 (o_getf 1 2) 3 := so_getf (ci := 1) E.2.2.1 wi_X6_actBack_X1 (by rw [E.2.1]; rfl) 2 (by decide) wl_X6_actBack_111 dX6_actBack_65
theorem oo_X6_actBack_68 {Γ : jΓ} {Q : jPost} (E : E_X6_actBack Γ Q) : jSA Γ Q 68 (o_iload 4) 2 := so_iload E.2.2.1 dX6_actBack_68
theorem oo_X6_actBack_70 {Γ : jΓ} {Q : jPost} (E : E_X6_actBack Γ Q) : jSA Γ Q 70 (o_iald) 1 := so_iald E.2.2.1 dX6_actBack_70
theorem oo_X6_actBack_71 {Γ : jΓ} {Q : jPost} (E : E_X6_actBack Γ Q) : jSA Γ Q 71 (o_ic (1)) 1 := so_iconst E.2.2.1 rfl dX6_actBack_71
theorem oo_X6_actBack_72 {Γ : jΓ} {Q : jPost} (E : E_X6_actBack Γ Q) : jSA Γ Q 72 (o_isub) 1 := so_isub E.2.2.1 dX6_actBack_72
theorem oo_X6_actBack_73 {Γ : jΓ} {Q : jPost} (E : E_X6_actBack Γ Q) : jSA Γ Q 73 (o_goto 85) 3 := so_goto E.2.2.1 (by decide) dX6_actBack_73
theorem oo_X6_actBack_76 {Γ : jΓ} {Q : jPost} (E : E_X6_actBack Γ Q) : jSA Γ Q 76 (o_aload 0) 1 := so_aload_n E.2.2.1 rfl dX6_actBack_76
theorem oo_X6_actBack_77 {Γ : jΓ} {Q : jPost} (E : E_X6_actBack Γ Q) : jSA Γ Q 77 (o_getf 6 0) 3 := so_getf (ci := 6) E.2.2.1 wi_X6_actBack_X6 (by rw [E.2.1]; rfl) 0 (by decide) wl_X6_actBack_12 dX6_actBack_77
theorem oo_X6_actBack_80 {Γ : jΓ} {Q : jPost} (E : E_X6_actBack Γ Q) : jSA Γ Q 80 (o_getf 1 1) 3 := so_getf (ci := 1) E.2.2.1 wi_X6_actBack_X1 (by rw [E.2.1]; rfl) 1 (by decide) wl_X6_actBack_90 dX6_actBack_80
theorem oo_X6_actBack_83 {Γ : jΓ} {Q : jPost} (E : E_X6_actBack Γ Q) : jSA Γ Q 83 (o_ic (1)) 1 := so_iconst E.2.2.1 rfl dX6_actBack_83
theorem oo_X6_actBack_84 {Γ : jΓ} {Q : jPost} (E : E_X6_actBack Γ Q) : jSA Γ Q 84 (o_isub) 1 := so_isub E.2.2.1 dX6_actBack_84
theorem oo_X6_actBack_85 {Γ : jΓ} {Q : jPost} (E : E_X6_actBack Γ Q) : jSA Γ Q 85 (o_istore 5) 2 := so_istore E.2.2.1 (by rw [E.1]; decide) dX6_actBack_85
theorem oo_X6_actBack_87 {Γ : jΓ} {Q : jPost} (E : E_X6_actBack Γ Q) : jSA Γ Q 87 (o_aload 0) 1 := so_aload_n E.2.2.1 rfl dX6_actBack_87
theorem oo_X6_actBack_88 {Γ : jΓ} {Q : jPost} (E : E_X6_actBack Γ Q) : jSA Γ Q 88 (o_getf 6 0) 3 := so_getf (ci := 6) E.2.2.1 wi_X6_actBack_X6 (by rw [E.2.1]; rfl) 0 (by decide) wl_X6_actBack_12 dX6_actBack_88
theorem oo_X6_actBack_91 {Γ : jΓ} {Q : jPost} (E : E_X6_actBack Γ Q) : jSA Γ Q 91 (o_aload 1) 1 := so_aload_n E.2.2.1 rfl dX6_actBack_91
theorem oo_X6_actBack_92 {Γ : jΓ} {Q : jPost} (E : E_X6_actBack Γ Q) : jSA Γ Q 92 (o_getf 0 2) 3 := so_getf (ci := 0) E.2.2.1 wi_X6_actBack_X0 (by rw [E.2.1]; rfl) 2 (by decide) wl_X6_actBack_120 dX6_actBack_92
theorem oo_X6_actBack_95 {Γ : jΓ} {Q : jPost} (E : E_X6_actBack Γ Q) : jSA Γ Q 95 (o_aload 0) 1 := so_aload_n E.2.2.1 rfl dX6_actBack_95
theorem oo_X6_actBack_96 {Γ : jΓ} {Q : jPost} (E : E_X6_actBack Γ Q) : jSA Γ Q 96 (o_getf 6 1) 3 := so_getf (ci := 6) E.2.2.1 wi_X6_actBack_X6 (by rw [E.2.1]; rfl) 1 (by decide) wl_X6_actBack_19 dX6_actBack_96
theorem oo_X6_actBack_99 {Γ : jΓ} {Q : jPost} (E : E_X6_actBack Γ Q) : jSA Γ Q 99 (o_getf 4 0) 3 := so_getf (ci := 4) E.2.2.1 wi_X6_actBack_X4 (by rw [E.2.1]; rfl) 0 (by decide) wl_X6_actBack_269 dX6_actBack_99
theorem oo_X6_actBack_102 {Γ : jΓ} {Q : jPost} (E : E_X6_actBack Γ Q) : jSA Γ Q 102 (o_aload 1) 1 := so_aload_n E.2.2.1 rfl dX6_actBack_102
theorem oo_X6_actBack_103 {Γ : jΓ} {Q : jPost} (E : E_X6_actBack Γ Q) : jSA Γ Q 103 (o_getf 0 3) 3 := so_getf (ci := 0) E.2.2.1 wi_X6_actBack_X0 (by rw [E.2.1]; rfl) 3 (by decide) wl_X6_actBack_123 dX6_actBack_103
theorem oo_X6_actBack_106 {Γ : jΓ} {Q : jPost} (E : E_X6_actBack Γ Q) : jSA Γ Q 106 (o_aald 4) 1 := so_aald4 E.2.2.1 dX6_actBack_106
theorem oo_X6_actBack_107 {Γ : jΓ} {Q : jPost} (E : E_X6_actBack Γ Q) : jSA Γ Q 107 (o_iload 5) 2 := so_iload E.2.2.1 dX6_actBack_107
theorem oo_X6_actBack_109 {Γ : jΓ} {Q : jPost} (E : E_X6_actBack Γ Q) : jSA Γ Q 109 (o_iald) 1 := so_iald E.2.2.1 dX6_actBack_109
theorem oo_X6_actBack_110 {Γ : jΓ} {Q : jPost} (E : E_X6_actBack Γ Q) : jSA Γ Q 110 (o_ineg) 1 := so_ineg E.2.2.1 dX6_actBack_110
theorem oo_X6_actBack_111 {Γ : jΓ} {Q : jPost} (E : E_X6_actBack Γ Q) : jSA Γ Q 111 (o_callV 3 1 T_X1_turned) 3 := so_callV E.2.2.1 (ci := 1) (by rw [E.2.1]; rfl) gX6_actBack_X1_turned (by decide +kernel) rfl (by rw [E.2.1]; exact m_X1_turned _) (by decide) (by decide) dX6_actBack_111
theorem oo_X6_actBack_114 {Γ : jΓ} {Q : jPost} (E : E_X6_actBack Γ Q) : jSA Γ Q 114 (o_istore 6) 2 := so_istore E.2.2.1 (by rw [E.1]; decide) dX6_actBack_114
theorem oo_X6_actBack_116 {Γ : jΓ} {Q : jPost} (E : E_X6_actBack Γ Q) : jSA Γ Q 116 (o_aload 0) 1 := so_aload_n E.2.2.1 rfl dX6_actBack_116
theorem oo_X6_actBack_117 {Γ : jΓ} {Q : jPost} (E : E_X6_actBack Γ Q) : jSA Γ Q 117 (o_getf 6 0) 3 := so_getf (ci := 6) E.2.2.1 wi_X6_actBack_X6 (by rw [E.2.1]; rfl) 0 (by decide) wl_X6_actBack_12 dX6_actBack_117
theorem oo_X6_actBack_120 {Γ : jΓ} {Q : jPost} (E : E_X6_actBack Γ Q) : jSA Γ Q 120 (o_getf 1 2) 3 := so_getf (ci := 1) E.2.2.1 wi_X6_actBack_X1 (by rw [E.2.1]; rfl) 2 (by decide) wl_X6_actBack_111 dX6_actBack_120
theorem oo_X6_actBack_123 {Γ : jΓ} {Q : jPost} (E : E_X6_actBack Γ Q) : jSA Γ Q 123 (o_iload 4) 2 := so_iload E.2.2.1 dX6_actBack_123
theorem oo_X6_actBack_125 {Γ : jΓ} {Q : jPost} (E : E_X6_actBack Γ Q) : jSA Γ Q 125 (o_iload 5) 2 := so_iload E.2.2.1 dX6_actBack_125
theorem oo_X6_actBack_127 {Γ : jΓ} {Q : jPost} (E : E_X6_actBack Γ Q) : jSA Γ Q 127 (o_iast) 1 := so_iast E.2.2.1 dX6_actBack_127
theorem oo_X6_actBack_128 {Γ : jΓ} {Q : jPost} (E : E_X6_actBack Γ Q) : jSA Γ Q 128 (o_aload 0) 1 := so_aload_n E.2.2.1 rfl dX6_actBack_128
theorem oo_X6_actBack_129 {Γ : jΓ} {Q : jPost} (E : E_X6_actBack Γ Q) : jSA Γ Q 129 (o_getf 6 0) 3 := so_getf (ci := 6) E.2.2.1 wi_X6_actBack_X6 (by rw [E.2.1]; rfl) 0 (by decide) wl_X6_actBack_12 dX6_actBack_129
theorem oo_X6_actBack_132 {Γ : jΓ} {Q : jPost} (E : E_X6_actBack Γ Q) : jSA Γ Q 132 (o_getf 1 3) 3 := so_getf (ci := 1) E.2.2.1 wi_X6_actBack_X1 (by rw [E.2.1]; rfl) 3 (by decide) wl_X6_actBack_150 dX6_actBack_132
theorem oo_X6_actBack_135 {Γ : jΓ} {Q : jPost} (E : E_X6_actBack Γ Q) : jSA Γ Q 135 (o_iload 4) 2 := so_iload E.2.2.1 dX6_actBack_135
theorem oo_X6_actBack_137 {Γ : jΓ} {Q : jPost} (E : E_X6_actBack Γ Q) : jSA Γ Q 137 (o_dup2) 1 := so_dup2 E.2.2.1 dX6_actBack_137
theorem oo_X6_actBack_138 {Γ : jΓ} {Q : jPost} (E : E_X6_actBack Γ Q) : jSA Γ Q 138 (o_iald) 1 := so_iald E.2.2.1 dX6_actBack_138
theorem oo_X6_actBack_139 {Γ : jΓ} {Q : jPost} (E : E_X6_actBack Γ Q) : jSA Γ Q 139 (o_ic (1)) 1 := so_iconst E.2.2.1 rfl dX6_actBack_139
theorem oo_X6_actBack_140 {Γ : jΓ} {Q : jPost} (E : E_X6_actBack Γ Q) : jSA Γ Q 140 (o_isub) 1 := so_isub E.2.2.1 dX6_actBack_140
theorem oo_X6_actBack_141 {Γ : jΓ} {Q : jPost} (E : E_X6_actBack Γ Q) : jSA Γ Q 141 (o_iast) 1 := so_iast E.2.2.1 dX6_actBack_141
theorem oo_X6_actBack_142 {Γ : jΓ} {Q : jPost} (E : E_X6_actBack Γ Q) : jSA Γ Q 142 (o_aload 1) 1 := so_aload_n E.2.2.1 rfl dX6_actBack_142
theorem oo_X6_actBack_143 {Γ : jΓ} {Q : jPost} (E : E_X6_actBack Γ Q) : jSA Γ Q 143 (o_iload 2) 1 := so_iload_n E.2.2.1 rfl dX6_actBack_143
theorem oo_X6_actBack_144 {Γ : jΓ} {Q : jPost} (E : E_X6_actBack Γ Q) : jSA Γ Q 144 (o_iload 3) 1 := so_iload_n E.2.2.1 rfl dX6_actBack_144
theorem oo_X6_actBack_145 {Γ : jΓ} {Q : jPost} (E : E_X6_actBack Γ Q) : jSA Γ Q 145 (o_iload 6) 2 := so_iload E.2.2.1 dX6_actBack_145
theorem oo_X6_actBack_147 {Γ : jΓ} {Q : jPost} (E : E_X6_actBack Γ Q) : jSA Γ Q 147 (o_aload 1) 1 := so_aload_n E.2.2.1 rfl dX6_actBack_147
theorem oo_X6_actBack_148 {Γ : jΓ} {Q : jPost} (E : E_X6_actBack Γ Q) : jSA Γ Q 148 (o_getf 0 3) 3 := so_getf (ci := 0) E.2.2.1 wi_X6_actBack_X0 (by rw [E.2.1]; rfl) 3 (by decide) wl_X6_actBack_123 dX6_actBack_148
theorem oo_X6_actBack_151 {Γ : jΓ} {Q : jPost} (E : E_X6_actBack Γ Q) : jSA Γ Q 151 (o_callV 5 0 T_X0_put) 3 := so_callV E.2.2.1 (ci := 0) (by rw [E.2.1]; rfl) gX6_actBack_X0_put (by decide +kernel) rfl (by rw [E.2.1]; exact m_X0_put _) (by decide) (by decide) dX6_actBack_151
theorem oo_X6_actBack_154 {Γ : jΓ} {Q : jPost} (E : E_X6_actBack Γ Q) : jSA Γ Q 154 (o_ic (1)) 1 := so_iconst E.2.2.1 rfl dX6_actBack_154
theorem oo_X6_actBack_155 {Γ : jΓ} {Q : jPost} (E : E_X6_actBack Γ Q) : jSA Γ Q 155 (o_iretz) 1 := so_iretz E.2.2.1 E.2.2.2 dX6_actBack_155
theorem ok_X6_actBack_0 {Γ : jΓ} {Q : jPost} (E : E_X6_actBack Γ Q) : jSS Γ Q 0 sg_X6_actBack_0 := ⟨oo_X6_actBack_0 E, oo_X6_actBack_1 E, oo_X6_actBack_4 E, oo_X6_actBack_5 E, oo_X6_actBack_8 E, oo_X6_actBack_9 E, oo_X6_actBack_12 E, oo_X6_actBack_15 E, oo_X6_actBack_16 E, oo_X6_actBack_17 E, oo_X6_actBack_18 E, oo_X6_actBack_21 E, oo_X6_actBack_22 E, oo_X6_actBack_25 E, oo_X6_actBack_26 E, oo_X6_actBack_29 E, oo_X6_actBack_32 E, oo_X6_actBack_33 E, oo_X6_actBack_34 E, oo_X6_actBack_35 E, oo_X6_actBack_36 E, oo_X6_actBack_39 E, oo_X6_actBack_41 E, oo_X6_actBack_43 E, oo_X6_actBack_46 E, oo_X6_actBack_47 E, trivial⟩
theorem ok_X6_actBack_48 {Γ : jΓ} {Q : jPost} (E : E_X6_actBack Γ Q) : jSS Γ Q 48 sg_X6_actBack_48 := ⟨oo_X6_actBack_48 E, oo_X6_actBack_49 E, oo_X6_actBack_52 E, oo_X6_actBack_55 E, oo_X6_actBack_57 E, oo_X6_actBack_58 E, oo_X6_actBack_61 E, oo_X6_actBack_62 E, oo_X6_actBack_65 E, oo_X6_actBack_68 E, oo_X6_actBack_70 E, oo_X6_actBack_71 E, oo_X6_actBack_72 E, oo_X6_actBack_73 E, trivial⟩
theorem ok_X6_actBack_76 {Γ : jΓ} {Q : jPost} (E : E_X6_actBack Γ Q) : jSS Γ Q 76 sg_X6_actBack_76 := ⟨oo_X6_actBack_76 E, oo_X6_actBack_77 E, oo_X6_actBack_80 E, oo_X6_actBack_83 E, oo_X6_actBack_84 E, oo_X6_actBack_85 E, oo_X6_actBack_87 E, oo_X6_actBack_88 E, oo_X6_actBack_91 E, oo_X6_actBack_92 E, oo_X6_actBack_95 E, oo_X6_actBack_96 E, oo_X6_actBack_99 E, oo_X6_actBack_102 E, oo_X6_actBack_103 E, oo_X6_actBack_106 E, oo_X6_actBack_107 E, oo_X6_actBack_109 E, oo_X6_actBack_110 E, oo_X6_actBack_111 E, oo_X6_actBack_114 E, oo_X6_actBack_116 E, oo_X6_actBack_117 E, oo_X6_actBack_120 E, oo_X6_actBack_123 E, oo_X6_actBack_125 E, oo_X6_actBack_127 E, oo_X6_actBack_128 E, oo_X6_actBack_129 E, oo_X6_actBack_132 E, oo_X6_actBack_135 E, oo_X6_actBack_137 E, oo_X6_actBack_138 E, oo_X6_actBack_139 E, oo_X6_actBack_140 E, oo_X6_actBack_141 E, oo_X6_actBack_142 E, oo_X6_actBack_143 E, oo_X6_actBack_144 E, oo_X6_actBack_145 E, oo_X6_actBack_147 E, oo_X6_actBack_148 E, oo_X6_actBack_151 E, oo_X6_actBack_154 E, oo_X6_actBack_155 E, trivial⟩
theorem ok_X6_actBack_85 {Γ : jΓ} {Q : jPost} (E : E_X6_actBack Γ Q) : jSS Γ Q 85 sg_X6_actBack_85 := ⟨oo_X6_actBack_85 E, oo_X6_actBack_87 E, oo_X6_actBack_88 E, oo_X6_actBack_91 E, oo_X6_actBack_92 E, oo_X6_actBack_95 E, oo_X6_actBack_96 E, oo_X6_actBack_99 E, oo_X6_actBack_102 E, oo_X6_actBack_103 E, oo_X6_actBack_106 E, oo_X6_actBack_107 E, oo_X6_actBack_109 E, oo_X6_actBack_110 E, oo_X6_actBack_111 E, oo_X6_actBack_114 E, oo_X6_actBack_116 E, oo_X6_actBack_117 E, oo_X6_actBack_120 E, oo_X6_actBack_123 E, oo_X6_actBack_125 E, oo_X6_actBack_127 E, oo_X6_actBack_128 E, oo_X6_actBack_129 E, oo_X6_actBack_132 E, oo_X6_actBack_135 E, oo_X6_actBack_137 E, oo_X6_actBack_138 E, oo_X6_actBack_139 E, oo_X6_actBack_140 E, oo_X6_actBack_141 E, oo_X6_actBack_142 E, oo_X6_actBack_143 E, oo_X6_actBack_144 E, oo_X6_actBack_145 E, oo_X6_actBack_147 E, oo_X6_actBack_148 E, oo_X6_actBack_151 E, oo_X6_actBack_154 E, oo_X6_actBack_155 E, trivial⟩
theorem okc_X6_actBack {Γ : jΓ} {Q : jPost} (E : E_X6_actBack Γ Q) (t : Nat) : jSS Γ Q t (cd_X6_actBack t) := by
  unfold cd_X6_actBack
  split
  · exact ok_X6_actBack_48 E
  · exact ok_X6_actBack_76 E
  · exact ok_X6_actBack_85 E
  · trivial
theorem m_X6_actBack_of (l : Launch) (hv : ∀ (G : jGt) (Q : jPost) (vs : List Value) (K : List jK) (h : jM), jHd cd_X6_actBack G Q sg_X6_actBack_0 0 → T_X6_actBack vs K h Q → (lg_sl vs).length ≤ 7 ∧ G 0 (jinit vs 7) [] K h 0 0) : jHolds vwCl l yX6_actBack wsX6_actBack 2 43 0 0 T_X6_actBack := by
  refine jMet (cc := cX6_actBack) (maxL := 7) (rt := (some .boolean)) (by decide +kernel) rfl (fun Γ Q vs K h hl hn hcl C hR hT => hv (jG Γ) Q vs K h ?_ hT)
  · exact fun n L st K h ce sl => jwp_ok (okc_X6_actBack ⟨hn, hcl, C, hR⟩) n sg_X6_actBack_0 0 (ok_X6_actBack_0 ⟨hn, hcl, C, hR⟩) L st K h ce sl
set_option maxHeartbeats 4000000 in
set_option maxRecDepth 100000 in
theorem v_X6_actBack {G : jGt} {Q : jPost} {K : List jK} {h : jM} {a : Nat} (hT : (∃ i, i < 6 ∧ a = 12 + i) ∧ jX K ∧ flOK h ∧ antOK h a ∧ (onF (cBX h a) (cBY h a) → Q (some (.int 1)) K (cBackM h a)) ∧ (¬ onF (cBX h a) (cBY h a) → Q (some (.int 0)) K h)) (H0 : jHd cd_X6_actBack G Q sg_X6_actBack_0 0) : G 0 [some (.ref 0), some (.ref a), none, none, none, none, none] [] K h 0 0 := by
  obtain ⟨⟨i, hi, rfl⟩, hX, ⟨⟨hn1, hn2⟩, hcel, htur⟩, ⟨hon, hdir, hrul⟩, hT1, hT0⟩ := hT
  have ha : isAnt (12 + i) := by unfold isAnt; omega
  have hr : (h (12 + i) 3).toNatClampNeg < 4 := vp_in_clamp hrul
  have hd2 : vp_in (h (12 + i) 2) (if h 1 0 = 1 then 6 else 4) := hdir
  have n2 : ¬ 12 + i = 2 := by omega
  have n3 : ¬ 12 + i = 3 := by omega
  by_cases hB : onF (cBX h (12 + i)) (cBY h (12 + i))
  · have hT1 := hT1 hB
    clear hT0
    have hp := jpl_in hB
    have hp2 : 0 ≤ jpl (cBX h (12 + i)) (cBY h (12 + i)) := by
      rw [Int32.le_iff_toInt_le]; exact (vp_in_iff.mp hp).1
    have hc := hcel _ (vp_in_clamp hp)
    have hm1 : (h 1 1 - 1).toInt = (h 1 1).toInt - 1 := ti_sub (by show _ ≤ (h 1 1).toInt - (1 : Int); omega) (by show (h 1 1).toInt - (1 : Int) < _; omega)
    have hm2 : (h 2 (jpl (cBX h (12 + i)) (cBY h (12 + i))).toNatClampNeg - 1).toInt = (h 2 (jpl (cBX h (12 + i)) (cBY h (12 + i))).toNatClampNeg).toInt - 1 := ti_sub (by show _ ≤ _ - (1 : Int); omega) (by show _ - (1 : Int) < _; omega)
    unfold cBackM cBD cBC cBP at hT1
    unfold cBX cBY at hp hp2 hc hm2 hT1
    refine H0 120 _ _ _ _ _ _ ?_
    simp only [sg_X6_actBack_0, sg_X6_actBack_48, sg_X6_actBack_76, sg_X6_actBack_85, cd_X6_actBack, jwp, o_ic, o_lc, o_iload, o_lload, o_aload, o_istore, o_lstore, o_astore, o_iinc, o_pop, o_dup, o_dup2, o_iadd, o_isub, o_imul, o_iand, o_ior, o_ishl, o_ladd, o_lmul, o_land, o_lor, o_idiv, o_irem, o_ineg, o_i2l, o_l2i, o_i2b, o_i2s, o_lushr, o_lshr, o_lshl, o_lcmp, o_ifeq, o_ifne, o_iflt, o_ifge, o_ifgt, o_ifle, o_iceq, o_icne, o_iclt, o_icge, o_icgt, o_icle, o_goto, o_tsw, jsw, o_lsw, jlk, o_getf, o_putf, o_putz, o_iald, o_zald, o_iast, o_zast, o_aald, o_alen, o_gets, o_zld, o_zlen, o_cpy, o_call, o_callV, o_ireti, o_iretz, o_lret, o_vret, jg, js, jkp, jkill, jsp, jcs, jfw, jov, Value.category, Option.toList_some, Option.toList_none, List.nil_append, List.cons_append, List.append_nil, Nat.reduceAdd, true_and, and_true, jb0, jb01, jb1, jem, true_or, or_true, Classical.not_not, forall_const, List.length_cons, List.length_nil, Nat.reduceLeDiff, Nat.zero_le, Nat.reduceLT, hX, kx_0_0 hX, kx_0_1 hX, kx_0_2 hX, kx_0_3 hX, kx_0_4 hX, kx_0_5 hX, kx_0_6 hX, kx_0_7 hX, kx_0_8 hX, kxo_0 hX, kx_1_0 hX, kx_1_1 hX, kx_1_2 hX, kx_1_3 hX, kxo_1 hX, kx_4_0 hX, kx_4_1 hX, kx_4_2 hX, kxo_4 hX, kx_19_0 hX, kx_19_1 hX, kx_19_2 hX, kx_19_3 hX, kx_19_4 hX, kxo_19 hX, kx_24_0 hX, kx_24_1 hX, kx_24_2 hX, kx_24_3 hX, kx_24_4 hX, kx_24_5 hX, kx_24_6 hX, kxo_24 hX, kxa_2 hX, kxa_3 hX, kxa_6 hX, kxa_7 hX, kxa_8 hX, kxa_9 hX, kxa_10 hX, kxa_18 hX, kxa_20 hX, kxa_21 hX, kxa_22 hX, kxa_23 hX, kxa_26 hX, kxa_27 hX, kxr_5 hX, kxr_11 hX, kxr_28 hX, kxn_0 hX ha, kxn_1 hX ha, kxn_2 hX ha, kxn_3 hX ha, kxn_o hX ha, ha, T_X6_placeOf, T_X1_turned, T_X1_stepX, T_X1_stepY, T_X6_isOn, T_X0_put, kx_rows hr, kx_rowl hX hr, hp, hp2, hrul, hd2, up2_n n2, up2_n n3, up2_n (show ¬ 1 = 2 by decide), up2_n (show ¬ 1 = 3 by decide), up2_n (show ¬ 3 = 2 by decide), not_true_eq_false, false_imp_iff]
    refine ⟨fun c => ?_, fun c => ?_⟩
    · rw [if_pos c] at hT1
      exact ⟨vp_in_iff.mpr ⟨by rw [hm1]; omega, by rw [hm1]; omega⟩, hT1⟩
    · rw [if_neg c] at hT1
      rw [Int32.le_iff_toInt_le] at c
      have c' : ¬ _ ≤ (0 : Int) := c
      exact ⟨vp_in_iff.mpr ⟨by rw [hm2]; omega, by rw [hm2]; omega⟩, hT1⟩
  · have hT0 := hT0 hB
    have hp := jpl_off hB
    unfold cBX cBY at hp
    refine H0 120 _ _ _ _ _ _ ?_
    simp only [sg_X6_actBack_0, sg_X6_actBack_48, sg_X6_actBack_76, sg_X6_actBack_85, cd_X6_actBack, jwp, o_ic, o_lc, o_iload, o_lload, o_aload, o_istore, o_lstore, o_astore, o_iinc, o_pop, o_dup, o_dup2, o_iadd, o_isub, o_imul, o_iand, o_ior, o_ishl, o_ladd, o_lmul, o_land, o_lor, o_idiv, o_irem, o_ineg, o_i2l, o_l2i, o_i2b, o_i2s, o_lushr, o_lshr, o_lshl, o_lcmp, o_ifeq, o_ifne, o_iflt, o_ifge, o_ifgt, o_ifle, o_iceq, o_icne, o_iclt, o_icge, o_icgt, o_icle, o_goto, o_tsw, jsw, o_lsw, jlk, o_getf, o_putf, o_putz, o_iald, o_zald, o_iast, o_zast, o_aald, o_alen, o_gets, o_zld, o_zlen, o_cpy, o_call, o_callV, o_ireti, o_iretz, o_lret, o_vret, jg, js, jkp, jkill, jsp, jcs, jfw, jov, Value.category, Option.toList_some, Option.toList_none, List.nil_append, List.cons_append, List.append_nil, Nat.reduceAdd, true_and, and_true, jb0, jb01, jb1, jem, true_or, or_true, Classical.not_not, forall_const, List.length_cons, List.length_nil, Nat.reduceLeDiff, Nat.zero_le, Nat.reduceLT, hX, kx_0_0 hX, kx_0_1 hX, kx_0_2 hX, kx_0_3 hX, kx_0_4 hX, kx_0_5 hX, kx_0_6 hX, kx_0_7 hX, kx_0_8 hX, kxo_0 hX, kx_1_0 hX, kx_1_1 hX, kx_1_2 hX, kx_1_3 hX, kxo_1 hX, kx_4_0 hX, kx_4_1 hX, kx_4_2 hX, kxo_4 hX, kx_19_0 hX, kx_19_1 hX, kx_19_2 hX, kx_19_3 hX, kx_19_4 hX, kxo_19 hX, kx_24_0 hX, kx_24_1 hX, kx_24_2 hX, kx_24_3 hX, kx_24_4 hX, kx_24_5 hX, kx_24_6 hX, kxo_24 hX, kxa_2 hX, kxa_3 hX, kxa_6 hX, kxa_7 hX, kxa_8 hX, kxa_9 hX, kxa_10 hX, kxa_18 hX, kxa_20 hX, kxa_21 hX, kxa_22 hX, kxa_23 hX, kxa_26 hX, kxa_27 hX, kxr_5 hX, kxr_11 hX, kxr_28 hX, kxn_0 hX ha, kxn_1 hX ha, kxn_2 hX ha, kxn_3 hX ha, kxn_o hX ha, ha, T_X6_placeOf, T_X1_turned, T_X1_stepX, T_X1_stepY, T_X6_isOn, T_X0_put, kx_rows hr, kx_rowl hX hr, hp, hrul, hd2, not_true_eq_false, false_imp_iff]
    exact ⟨fun q => absurd q (by decide), fun _ => hT0⟩
theorem m_X6_actBack (l : Launch) : jHolds vwCl l yX6_actBack wsX6_actBack 2 43 0 0 T_X6_actBack := by
  refine m_X6_actBack_of l (fun G Q vs K h H0 hT => ?_)
  unfold T_X6_actBack at hT
  split at hT
  · obtain ⟨rfl, hT⟩ := hT
    exact ⟨Nat.le_of_ble_eq_true rfl, v_X6_actBack hT H0⟩
  · exact hT.elim

/-! X2_tread -/
/-- V behind m places of the row of places -/
def jtr (h : jM) : Nat → jM
  | 0 => h
  | i + 1 => if h 24 0 = 0 then jtr h i else if jtr h i 27 (h 18 i).toNatClampNeg = 0 then up2 (up2 (jtr h i) 27 (h 18 i).toNatClampNeg 1) 24 3 (jtr h i 24 3 + 1) else jtr h i
theorem jtr_un {h : jM} (q : h 24 0 = 0) : ∀ i, jtr h i = h
  | 0 => rfl
  | i + 1 => by
    unfold jtr
    rw [if_pos q]
    exact jtr_un q i
theorem jtr_o (h : jM) {a : Nat} (h1 : ¬ a = 24) (h2 : ¬ a = 27) : ∀ i, jtr h i a = h a
  | 0 => rfl
  | i + 1 => by
    unfold jtr
    split
    · exact jtr_o h h1 h2 i
    · split
      · rw [up2_n h1, up2_n h2]; exact jtr_o h h1 h2 i
      · exact jtr_o h h1 h2 i
theorem jtr_18 (h : jM) (i : Nat) : jtr h i 18 = h 18 := jtr_o h (by decide) (by decide) i
theorem jtr_24 (h : jM) (i : Nat) {k : Nat} (hk : ¬ k = 3) : jtr h i 24 k = h 24 k := by
  induction i with
  | zero => rfl
  | succ i ih =>
    unfold jtr
    split
    · exact ih
    · split
      · rw [up2_s, upd_n hk, up2_n (by decide : ¬ 24 = 27)]; exact ih
      · exact ih
theorem jtr_27 {h : jM} {i : Nat} {k : Nat} (q : ¬ h 24 0 = 0) : jtr h i 27 k = jtr h i 27 k := rfl
theorem jtr_s0 {h : jM} {i : Nat} (q : ¬ h 24 0 = 0) (q2 : ¬ jtr h i 27 (h 18 i).toNatClampNeg = 0) : jtr h (i + 1) = jtr h i := by
  show (if h 24 0 = 0 then _ else _) = _
  rw [if_neg q, if_neg q2]
theorem jtr_s1 {h : jM} {i : Nat} (q : ¬ h 24 0 = 0) (q2 : jtr h i 27 (h 18 i).toNatClampNeg = 0) : jtr h (i + 1) = up2 (up2 (jtr h i) 27 (h 18 i).toNatClampNeg 1) 24 3 (jtr h i 24 3 + 1) := by
  show (if h 24 0 = 0 then _ else _) = _
  rw [if_neg q, if_pos q2]
def T_X2_tread : jT := fun vs K h Q => match vs with
  | [.ref r0, .ref b, .int m] => r0 = 24 ∧ (jX K ∧ b = 18 ∧ (0 ≤ m.toInt ∧ m.toInt ≤ 6) ∧ (∀ k, k < m.toInt.toNat → vp_in (h 18 k) 57600) ∧ Q none K (jtr h m.toInt.toNat))
  | _ => False
def sg_X2_tread_0 : jS := [(o_ic (0), 1), (o_istore 3, 1)]
def sg_X2_tread_2 : jS := [(o_iload 3, 1), (o_iload 2, 1), (o_icge 50, 3), (o_aload 0, 1), (o_getf 2 0, 3), (o_ifeq 50, 3), (o_aload 0, 1), (o_getf 2 6, 3), (o_aload 1, 1), (o_iload 3, 1), (o_iald, 1), (o_iald, 1), (o_ifne 44, 3), (o_aload 0, 1), (o_getf 2 6, 3), (o_aload 1, 1), (o_iload 3, 1), (o_iald, 1), (o_ic (1), 1), (o_iast, 1), (o_aload 0, 1), (o_dup, 1), (o_getf 2 3, 3), (o_ic (1), 1), (o_iadd, 1), (o_putf 2 3, 3), (o_iinc 3 (1), 3), (o_goto 2, 3)]
def sg_X2_tread_44 : jS := [(o_iinc 3 (1), 3), (o_goto 2, 3)]
def sg_X2_tread_50 : jS := [(o_vret, 1)]
def cd_X2_tread : Nat → jS := fun t => match t with
  | 44 => sg_X2_tread_44
  | 50 => sg_X2_tread_50
  | _ => []
theorem wl_X2_tread_23 : Cond.fieldLink RX2 23 (TX2 6).1 (TX2 6).2.1 (TX2 6).2.2.1 ∈ wsX2_tread := by decide +kernel
theorem wl_X2_tread_26 : Cond.fieldLink RX2 26 (TX2 0).1 (TX2 0).2.1 (TX2 0).2.2.1 ∈ wsX2_tread := by decide +kernel
theorem wl_X2_tread_65 : Cond.fieldLink RX2 65 (TX2 3).1 (TX2 3).2.1 (TX2 3).2.2.1 ∈ wsX2_tread := by decide +kernel
theorem wi_X2_tread_X2 : ∀ w ∈ u_ws RX2 TX2 7, w ∈ wsX2_tread := by decide +kernel
def E_X2_tread (Γ : jΓ) (Q : jPost) : Prop := Γ.2.2.2.2.2.2.2.2.2.2.1 = 4 ∧ Γ.2.2.2.2.2.2.2.2.2.2.2.1 = vwCl ∧ jC Γ cX2_tread RX2 "tread" none wsX2_tread 0 0 0 0 ∧ jR Γ Q 0 0
theorem oo_X2_tread_0 {Γ : jΓ} {Q : jPost} (E : E_X2_tread Γ Q) : jSA Γ Q 0 (o_ic (0)) 1 := so_iconst E.2.2.1 rfl dX2_tread_0
theorem oo_X2_tread_1 {Γ : jΓ} {Q : jPost} (E : E_X2_tread Γ Q) : jSA Γ Q 1 (o_istore 3) 1 := so_istore_n E.2.2.1 rfl (by rw [E.1]; decide) dX2_tread_1
theorem oo_X2_tread_2 {Γ : jΓ} {Q : jPost} (E : E_X2_tread Γ Q) : jSA Γ Q 2 (o_iload 3) 1 := so_iload_n E.2.2.1 rfl dX2_tread_2
theorem oo_X2_tread_3 {Γ : jΓ} {Q : jPost} (E : E_X2_tread Γ Q) : jSA Γ Q 3 (o_iload 2) 1 := so_iload_n E.2.2.1 rfl dX2_tread_3
theorem oo_X2_tread_4 {Γ : jΓ} {Q : jPost} (E : E_X2_tread Γ Q) : jSA Γ Q 4 (o_icge 50) 3 := so_icge E.2.2.1 (by decide) dX2_tread_4
theorem oo_X2_tread_7 {Γ : jΓ} {Q : jPost} (E : E_X2_tread Γ Q) : jSA Γ Q 7 (o_aload 0) 1 := so_aload_n E.2.2.1 rfl dX2_tread_7
theorem oo_X2_tread_8 {Γ : jΓ} {Q : jPost} (E : E_X2_tread Γ Q) : jSA Γ Q 8 (o_getf 2 0) 3 := so_getf (ci := 2) E.2.2.1 wi_X2_tread_X2 (by rw [E.2.1]; rfl) 0 (by decide) wl_X2_tread_26 dX2_tread_8
theorem oo_X2_tread_11 {Γ : jΓ} {Q : jPost} (E : E_X2_tread Γ Q) : jSA Γ Q 11 (o_ifeq 50) 3 := so_ifeq E.2.2.1 (by decide) dX2_tread_11
theorem oo_X2_tread_14 {Γ : jΓ} {Q : jPost} (E : E_X2_tread Γ Q) : jSA Γ Q 14 (o_aload 0) 1 := so_aload_n E.2.2.1 rfl dX2_tread_14
theorem oo_X2_tread_15 {Γ : jΓ} {Q : jPost} (E : E_X2_tread Γ Q) : jSA Γ Q 15 (o_getf 2 6) 3 := so_getf (ci := 2) E.2.2.1 wi_X2_tread_X2 (by rw [E.2.1]; rfl) 6 (by decide) wl_X2_tread_23 dX2_tread_15
theorem oo_X2_tread_18 {Γ : jΓ} {Q : jPost} (E : E_X2_tread Γ Q) : jSA Γ Q 18 (o_aload 1) 1 := so_aload_n E.2.2.1 rfl dX2_tread_18
theorem oo_X2_tread_19 {Γ : jΓ} {Q : jPost} (E : E_X2_tread Γ Q) : jSA Γ Q 19 (o_iload 3) 1 := so_iload_n E.2.2.1 rfl dX2_tread_19
theorem oo_X2_tread_20 {Γ : jΓ} {Q : jPost} (E : E_X2_tread Γ Q) : jSA Γ Q 20 (o_iald) 1 := so_iald E.2.2.1 dX2_tread_20
theorem oo_X2_tread_21 {Γ : jΓ} {Q : jPost} (E : E_X2_tread Γ Q) : jSA Γ Q 21 (o_iald) 1 := so_iald E.2.2.1 dX2_tread_21
theorem oo_X2_tread_22 {Γ : jΓ} {Q : jPost} (E : E_X2_tread Γ Q) : jSA Γ Q 22 (o_ifne 44) 3 := so_ifne E.2.2.1 (by decide) dX2_tread_22
theorem oo_X2_tread_25 {Γ : jΓ} {Q : jPost} (E : E_X2_tread Γ Q) : jSA Γ Q 25 (o_aload 0) 1 := so_aload_n E.2.2.1 rfl dX2_tread_25
theorem oo_X2_tread_26 {Γ : jΓ} {Q : jPost} (E : E_X2_tread Γ Q) : jSA Γ Q 26 (o_getf 2 6) 3 := so_getf (ci := 2) E.2.2.1 wi_X2_tread_X2 (by rw [E.2.1]; rfl) 6 (by decide) wl_X2_tread_23 dX2_tread_26
theorem oo_X2_tread_29 {Γ : jΓ} {Q : jPost} (E : E_X2_tread Γ Q) : jSA Γ Q 29 (o_aload 1) 1 := so_aload_n E.2.2.1 rfl dX2_tread_29
theorem oo_X2_tread_30 {Γ : jΓ} {Q : jPost} (E : E_X2_tread Γ Q) : jSA Γ Q 30 (o_iload 3) 1 := so_iload_n E.2.2.1 rfl dX2_tread_30
theorem oo_X2_tread_31 {Γ : jΓ} {Q : jPost} (E : E_X2_tread Γ Q) : jSA Γ Q 31 (o_iald) 1 := so_iald E.2.2.1 dX2_tread_31
theorem oo_X2_tread_32 {Γ : jΓ} {Q : jPost} (E : E_X2_tread Γ Q) : jSA Γ Q 32 (o_ic (1)) 1 := so_iconst E.2.2.1 rfl dX2_tread_32
theorem oo_X2_tread_33 {Γ : jΓ} {Q : jPost} (E : E_X2_tread Γ Q) : jSA Γ Q 33 (o_iast) 1 := so_iast E.2.2.1 dX2_tread_33
theorem oo_X2_tread_34 {Γ : jΓ} {Q : jPost} (E : E_X2_tread Γ Q) : jSA Γ Q 34 (o_aload 0) 1 := so_aload_n E.2.2.1 rfl dX2_tread_34
theorem oo_X2_tread_35 {Γ : jΓ} {Q : jPost} (E : E_X2_tread Γ Q) : jSA Γ Q 35 (o_dup) 1 := so_dup E.2.2.1 dX2_tread_35
theorem oo_X2_tread_36 {Γ : jΓ} {Q : jPost} (E : E_X2_tread Γ Q) : jSA Γ Q 36 (o_getf 2 3) 3 := so_getf (ci := 2) E.2.2.1 wi_X2_tread_X2 (by rw [E.2.1]; rfl) 3 (by decide) wl_X2_tread_65 dX2_tread_36
theorem oo_X2_tread_39 {Γ : jΓ} {Q : jPost} (E : E_X2_tread Γ Q) : jSA Γ Q 39 (o_ic (1)) 1 := so_iconst E.2.2.1 rfl dX2_tread_39
theorem oo_X2_tread_40 {Γ : jΓ} {Q : jPost} (E : E_X2_tread Γ Q) : jSA Γ Q 40 (o_iadd) 1 := so_iadd E.2.2.1 dX2_tread_40
theorem oo_X2_tread_41 {Γ : jΓ} {Q : jPost} (E : E_X2_tread Γ Q) : jSA Γ Q 41 (o_putf 2 3) 3 := so_putf (ci := 2) E.2.2.1 tyX2 tyX2_ok nmX2 wi_X2_tread_X2 (by rw [E.2.1]; rfl) 3 (by decide) wl_X2_tread_65 rfl (by decide +kernel) dX2_tread_41
theorem oo_X2_tread_44 {Γ : jΓ} {Q : jPost} (E : E_X2_tread Γ Q) : jSA Γ Q 44 (o_iinc 3 (1)) 3 := so_iinc E.2.2.1 rfl (by rw [E.1]; decide) dX2_tread_44
theorem oo_X2_tread_47 {Γ : jΓ} {Q : jPost} (E : E_X2_tread Γ Q) : jSA Γ Q 47 (o_goto 2) 3 := so_goto E.2.2.1 (by decide) dX2_tread_47
theorem oo_X2_tread_50 {Γ : jΓ} {Q : jPost} (E : E_X2_tread Γ Q) : jSA Γ Q 50 (o_vret) 1 := so_vret E.2.2.1 E.2.2.2 dX2_tread_50
theorem ok_X2_tread_0 {Γ : jΓ} {Q : jPost} (E : E_X2_tread Γ Q) : jSS Γ Q 0 sg_X2_tread_0 := ⟨oo_X2_tread_0 E, oo_X2_tread_1 E, trivial⟩
theorem ok_X2_tread_2 {Γ : jΓ} {Q : jPost} (E : E_X2_tread Γ Q) : jSS Γ Q 2 sg_X2_tread_2 := ⟨oo_X2_tread_2 E, oo_X2_tread_3 E, oo_X2_tread_4 E, oo_X2_tread_7 E, oo_X2_tread_8 E, oo_X2_tread_11 E, oo_X2_tread_14 E, oo_X2_tread_15 E, oo_X2_tread_18 E, oo_X2_tread_19 E, oo_X2_tread_20 E, oo_X2_tread_21 E, oo_X2_tread_22 E, oo_X2_tread_25 E, oo_X2_tread_26 E, oo_X2_tread_29 E, oo_X2_tread_30 E, oo_X2_tread_31 E, oo_X2_tread_32 E, oo_X2_tread_33 E, oo_X2_tread_34 E, oo_X2_tread_35 E, oo_X2_tread_36 E, oo_X2_tread_39 E, oo_X2_tread_40 E, oo_X2_tread_41 E, oo_X2_tread_44 E, oo_X2_tread_47 E, trivial⟩
theorem ok_X2_tread_44 {Γ : jΓ} {Q : jPost} (E : E_X2_tread Γ Q) : jSS Γ Q 44 sg_X2_tread_44 := ⟨oo_X2_tread_44 E, oo_X2_tread_47 E, trivial⟩
theorem ok_X2_tread_50 {Γ : jΓ} {Q : jPost} (E : E_X2_tread Γ Q) : jSS Γ Q 50 sg_X2_tread_50 := ⟨oo_X2_tread_50 E, trivial⟩
theorem okc_X2_tread {Γ : jΓ} {Q : jPost} (E : E_X2_tread Γ Q) (t : Nat) : jSS Γ Q t (cd_X2_tread t) := by
  unfold cd_X2_tread
  split
  · exact ok_X2_tread_44 E
  · exact ok_X2_tread_50 E
  · trivial
theorem m_X2_tread_of (l : Launch) (hv : ∀ (G : jGt) (Q : jPost) (vs : List Value) (K : List jK) (h : jM), jHd cd_X2_tread G Q sg_X2_tread_0 0 → jHd cd_X2_tread G Q sg_X2_tread_2 2 → T_X2_tread vs K h Q → (lg_sl vs).length ≤ 4 ∧ G 0 (jinit vs 4) [] K h 0 0) : jHolds vwCl l yX2_tread wsX2_tread 0 0 0 0 T_X2_tread := by
  refine jMet (cc := cX2_tread) (maxL := 4) (rt := none) (by decide +kernel) rfl (fun Γ Q vs K h hl hn hcl C hR hT => hv (jG Γ) Q vs K h ?_ ?_ hT)
  · exact fun n L st K h ce sl => jwp_ok (okc_X2_tread ⟨hn, hcl, C, hR⟩) n sg_X2_tread_0 0 (ok_X2_tread_0 ⟨hn, hcl, C, hR⟩) L st K h ce sl
  · exact fun n L st K h ce sl => jwp_ok (okc_X2_tread ⟨hn, hcl, C, hR⟩) n sg_X2_tread_2 2 (ok_X2_tread_2 ⟨hn, hcl, C, hR⟩) L st K h ce sl
set_option maxHeartbeats 4000000 in
set_option maxRecDepth 100000 in
theorem v_X2_tread {G : jGt} {Q : jPost} {K : List jK} {h : jM} {b : Nat} {m : Int32} (hT : jX K ∧ b = 18 ∧ (0 ≤ m.toInt ∧ m.toInt ≤ 6) ∧ (∀ k, k < m.toInt.toNat → vp_in (h 18 k) 57600) ∧ Q none K (jtr h m.toInt.toNat)) (H0 : jHd cd_X2_tread G Q sg_X2_tread_0 0) (H2 : jHd cd_X2_tread G Q sg_X2_tread_2 2) : G 0 [some (.ref 24), some (.ref b), some (.int m), none] [] K h 0 0 := by
  obtain ⟨hX, rfl, ⟨hm0, hm1⟩, hpl, hT⟩ := hT
  obtain ⟨m, hm, rfl⟩ : ∃ j, j ≤ 6 ∧ m = nI j := jnat (by omega) (by omega)
  rw [nI_toInt (by omega)] at hT hpl
  simp only [Int.toNat_natCast] at hT hpl
  have loop : ∀ n i, i + n = m → G 2 [some (.ref 24), some (.ref 18), some (.int (nI m)), some (.int (nI i))] [] K (jtr h i) 0 0 := by
    intro n
    induction n with
    | zero =>
      intro i hi
      have : i = m := by omega
      subst this
      refine H2 60 _ _ _ _ _ _ ?_
      simp only [sg_X2_tread_0, sg_X2_tread_2, sg_X2_tread_44, sg_X2_tread_50, cd_X2_tread, jwp, o_ic, o_lc, o_iload, o_lload, o_aload, o_istore, o_lstore, o_astore, o_iinc, o_pop, o_dup, o_dup2, o_iadd, o_isub, o_imul, o_iand, o_ior, o_ishl, o_ladd, o_lmul, o_land, o_lor, o_idiv, o_irem, o_ineg, o_i2l, o_l2i, o_i2b, o_i2s, o_lushr, o_lshr, o_lshl, o_lcmp, o_ifeq, o_ifne, o_iflt, o_ifge, o_ifgt, o_ifle, o_iceq, o_icne, o_iclt, o_icge, o_icgt, o_icle, o_goto, o_tsw, jsw, o_lsw, jlk, o_getf, o_putf, o_putz, o_iald, o_zald, o_iast, o_zast, o_aald, o_alen, o_gets, o_zld, o_zlen, o_cpy, o_call, o_callV, o_ireti, o_iretz, o_lret, o_vret, jg, js, jkp, jkill, jsp, jcs, jfw, jov, Value.category, Option.toList_some, Option.toList_none, List.nil_append, List.cons_append, List.append_nil, Nat.reduceAdd, true_and, and_true, jb0, jb01, jb1, jem, true_or, or_true, Classical.not_not, forall_const, List.length_cons, List.length_nil, Nat.reduceLeDiff, Nat.zero_le, Nat.reduceLT, hX, kx_0_0 hX, kx_0_1 hX, kx_0_2 hX, kx_0_3 hX, kx_0_4 hX, kx_0_5 hX, kx_0_6 hX, kx_0_7 hX, kx_0_8 hX, kxo_0 hX, kx_1_0 hX, kx_1_1 hX, kx_1_2 hX, kx_1_3 hX, kxo_1 hX, kx_4_0 hX, kx_4_1 hX, kx_4_2 hX, kxo_4 hX, kx_19_0 hX, kx_19_1 hX, kx_19_2 hX, kx_19_3 hX, kx_19_4 hX, kxo_19 hX, kx_24_0 hX, kx_24_1 hX, kx_24_2 hX, kx_24_3 hX, kx_24_4 hX, kx_24_5 hX, kx_24_6 hX, kxo_24 hX, kxa_2 hX, kxa_3 hX, kxa_6 hX, kxa_7 hX, kxa_8 hX, kxa_9 hX, kxa_10 hX, kxa_18 hX, kxa_20 hX, kxa_21 hX, kxa_22 hX, kxa_23 hX, kxa_26 hX, kxa_27 hX, kxr_5 hX, kxr_11 hX, kxr_28 hX]
      exact ⟨fun _ => hT, fun q => absurd (Int32.le_refl _) q⟩
    | succ n ih =>
      intro i hi
      have h2 := ih (i + 1) (by omega)
      refine H2 60 _ _ _ _ _ _ ?_
      simp only [sg_X2_tread_0, sg_X2_tread_2, sg_X2_tread_44, sg_X2_tread_50, cd_X2_tread, jwp, o_ic, o_lc, o_iload, o_lload, o_aload, o_istore, o_lstore, o_astore, o_iinc, o_pop, o_dup, o_dup2, o_iadd, o_isub, o_imul, o_iand, o_ior, o_ishl, o_ladd, o_lmul, o_land, o_lor, o_idiv, o_irem, o_ineg, o_i2l, o_l2i, o_i2b, o_i2s, o_lushr, o_lshr, o_lshl, o_lcmp, o_ifeq, o_ifne, o_iflt, o_ifge, o_ifgt, o_ifle, o_iceq, o_icne, o_iclt, o_icge, o_icgt, o_icle, o_goto, o_tsw, jsw, o_lsw, jlk, o_getf, o_putf, o_putz, o_iald, o_zald, o_iast, o_zast, o_aald, o_alen, o_gets, o_zld, o_zlen, o_cpy, o_call, o_callV, o_ireti, o_iretz, o_lret, o_vret, jg, js, jkp, jkill, jsp, jcs, jfw, jov, Value.category, Option.toList_some, Option.toList_none, List.nil_append, List.cons_append, List.append_nil, Nat.reduceAdd, true_and, and_true, jb0, jb01, jb1, jem, true_or, or_true, Classical.not_not, forall_const, List.length_cons, List.length_nil, Nat.reduceLeDiff, Nat.zero_le, Nat.reduceLT, hX, kx_0_0 hX, kx_0_1 hX, kx_0_2 hX, kx_0_3 hX, kx_0_4 hX, kx_0_5 hX, kx_0_6 hX, kx_0_7 hX, kx_0_8 hX, kxo_0 hX, kx_1_0 hX, kx_1_1 hX, kx_1_2 hX, kx_1_3 hX, kxo_1 hX, kx_4_0 hX, kx_4_1 hX, kx_4_2 hX, kxo_4 hX, kx_19_0 hX, kx_19_1 hX, kx_19_2 hX, kx_19_3 hX, kx_19_4 hX, kxo_19 hX, kx_24_0 hX, kx_24_1 hX, kx_24_2 hX, kx_24_3 hX, kx_24_4 hX, kx_24_5 hX, kx_24_6 hX, kxo_24 hX, kxa_2 hX, kxa_3 hX, kxa_6 hX, kxa_7 hX, kxa_8 hX, kxa_9 hX, kxa_10 hX, kxa_18 hX, kxa_20 hX, kxa_21 hX, kxa_22 hX, kxa_23 hX, kxa_26 hX, kxa_27 hX, kxr_5 hX, kxr_11 hX, kxr_28 hX]
      rw [jtr_18, jtr_24 h i (by decide : ¬ 0 = 3), nI_clamp (by omega), nI_1, up2_n (by decide : ¬ 24 = 27)]
      have hin := hpl i (by omega)
      refine ⟨fun q => absurd ((nI_leI (by omega) (by omega)).mp q) (by omega), fun _ => ⟨fun q => ?_, fun q => ⟨vp_in_nI (by omega) (by decide), hin, fun q2 => ?_, fun q2 => ⟨vp_in_nI (by omega) (by decide), hin, ?_⟩⟩⟩⟩
      · have e : jtr h i = jtr h m := by rw [jtr_un q, jtr_un q]
        rw [e]; exact hT
      · rw [jtr_s0 q (by rw [← jtr_27 q]; exact q2)] at h2
        exact h2
      · rw [jtr_s1 q q2] at h2
        exact h2
  refine H0 60 _ _ _ _ _ _ ?_
  simp only [sg_X2_tread_0, sg_X2_tread_2, sg_X2_tread_44, sg_X2_tread_50, cd_X2_tread, jwp, o_ic, o_lc, o_iload, o_lload, o_aload, o_istore, o_lstore, o_astore, o_iinc, o_pop, o_dup, o_dup2, o_iadd, o_isub, o_imul, o_iand, o_ior, o_ishl, o_ladd, o_lmul, o_land, o_lor, o_idiv, o_irem, o_ineg, o_i2l, o_l2i, o_i2b, o_i2s, o_lushr, o_lshr, o_lshl, o_lcmp, o_ifeq, o_ifne, o_iflt, o_ifge, o_ifgt, o_ifle, o_iceq, o_icne, o_iclt, o_icge, o_icgt, o_icle, o_goto, o_tsw, jsw, o_lsw, jlk, o_getf, o_putf, o_putz, o_iald, o_zald, o_iast, o_zast, o_aald, o_alen, o_gets, o_zld, o_zlen, o_cpy, o_call, o_callV, o_ireti, o_iretz, o_lret, o_vret, jg, js, jkp, jkill, jsp, jcs, jfw, jov, Value.category, Option.toList_some, Option.toList_none, List.nil_append, List.cons_append, List.append_nil, Nat.reduceAdd, true_and, and_true, jb0, jb01, jb1, jem, true_or, or_true, Classical.not_not, forall_const, List.length_cons, List.length_nil, Nat.reduceLeDiff, Nat.zero_le, Nat.reduceLT, hX, kx_0_0 hX, kx_0_1 hX, kx_0_2 hX, kx_0_3 hX, kx_0_4 hX, kx_0_5 hX, kx_0_6 hX, kx_0_7 hX, kx_0_8 hX, kxo_0 hX, kx_1_0 hX, kx_1_1 hX, kx_1_2 hX, kx_1_3 hX, kxo_1 hX, kx_4_0 hX, kx_4_1 hX, kx_4_2 hX, kxo_4 hX, kx_19_0 hX, kx_19_1 hX, kx_19_2 hX, kx_19_3 hX, kx_19_4 hX, kxo_19 hX, kx_24_0 hX, kx_24_1 hX, kx_24_2 hX, kx_24_3 hX, kx_24_4 hX, kx_24_5 hX, kx_24_6 hX, kxo_24 hX, kxa_2 hX, kxa_3 hX, kxa_6 hX, kxa_7 hX, kxa_8 hX, kxa_9 hX, kxa_10 hX, kxa_18 hX, kxa_20 hX, kxa_21 hX, kxa_22 hX, kxa_23 hX, kxa_26 hX, kxa_27 hX, kxr_5 hX, kxr_11 hX, kxr_28 hX]
  exact loop m 0 (by omega)
theorem m_X2_tread (l : Launch) : jHolds vwCl l yX2_tread wsX2_tread 0 0 0 0 T_X2_tread := by
  refine m_X2_tread_of l (fun G Q vs K h H0 H2 hT => ?_)
  unfold T_X2_tread at hT
  split at hT
  · obtain ⟨rfl, hT⟩ := hT
    exact ⟨Nat.le_of_ble_eq_true rfl, v_X2_tread hT H0 H2⟩
  · exact hT.elim
