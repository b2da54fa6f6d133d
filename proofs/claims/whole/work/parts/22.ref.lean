/-! ===== runs of the reference ===== -/
def mSucc (cnt : Nat) (g0 g : jM) : Prop := aAll (mQ g0) (mS g0) cnt ∧ ∃ g1, mS g1 = aActs (mQ g0) (mS g0) cnt ∧ mQ g1 = mQ g0 ∧ frM g0 g1 ∧ (∀ b, b < cnt → g1 46 b = nI (aP (mS g0) b)) ∧ g = mMt (up2 (mVs (aP (mS g0)) g1 cnt) 37 4 (mVs (aP (mS g0)) g1 cnt 37 4 + 1)) cnt cnt
def mFail (cnt : Nat) (g0 g : jM) : Prop := ¬ aAll (mQ g0) (mS g0) cnt ∧ mS g = mS g0 ∧ mQ g = mQ g0 ∧ frM g0 g
def mSuccB (cnt : Nat) (g0 g : jM) : Prop := aBAll (mQ g0) (mS g0) cnt ∧ ∃ g1, mS g1 = aBks (mQ g0) (mS g0) cnt cnt ∧ mQ g1 = mQ g0 ∧ frM g0 g1 ∧ (∀ b, b < cnt → g1 46 b = nI (aBPl (mQ g0) (mS g0) cnt b)) ∧ g = up2 (up2 (mVb (aBPl (mQ g0) (mS g0) cnt) g1 cnt) 37 4 (mVb (aBPl (mQ g0) (mS g0) cnt) g1 cnt 37 4 - 1)) 37 21 1
def mFailB (cnt : Nat) (g0 g : jM) : Prop := ¬ aBAll (mQ g0) (mS g0) cnt ∧ mS g = mS g0 ∧ mQ g = mQ g0 ∧ frM g0 g
theorem mQ_of2 {g h : jM} (h0 : g 37 0 = h 37 0) (h1 : g 37 1 = h 37 1) (h2 : g 40 = h 40) (h3 : g 45 = h 45) : mQ g = mQ h := by
  unfold mQ; rw [h0, h1, h2, h3]
theorem mS_of2 {g h : jM} (h0 : g 38 = h 38) (h1 : g 42 = h 42) (h2 : g 43 = h 43) (h3 : g 44 = h 44) : mS g = mS h := by
  unfold mS; rw [h0, h1, h2, h3]
/-- behind a step: what the state is -/
theorem mSucc_inv {cnt : Nat} {g0 g : jM} (hs : mSucc cnt g0 g) (hm0 : 0 ≤ (g0 37 14).toInt) (hm1 : (g0 37 14).toInt + cnt < 2147483648) : mS g = aActs (mQ g0) (mS g0) cnt ∧ mQ g = mQ g0 ∧ g 37 8 = g0 37 8 ∧ g 37 0 = g0 37 0 ∧ ((g0 37 14).toInt ≤ (g 37 14).toInt ∧ (g 37 14).toInt ≤ (g0 37 14).toInt + cnt) := by
  obtain ⟨-, g1, h1, h2, h3, -, rfl⟩ := hs
  have f37 : g1 37 = g0 37 := h3 37 (by decide) (by decide) (by decide) (by decide) (by decide)
  have e : ∀ c, ¬ (47 ≤ c ∧ c < 52) → ¬ c = 37 → ¬ c = 39 → mMt (up2 (mVs (aP (mS g0)) g1 cnt) 37 4 (mVs (aP (mS g0)) g1 cnt 37 4 + 1)) cnt cnt c = g1 c := by
    intro c c1 c2 c3
    rw [(mMt_o _ cnt cnt).1 c ⟨by omega, c2⟩, up2_n c2, mVs_o _ _ _ c3 (by omega)]
  have e37 : ∀ k, ¬ k = 14 → ¬ k = 4 → mMt (up2 (mVs (aP (mS g0)) g1 cnt) 37 4 (mVs (aP (mS g0)) g1 cnt 37 4 + 1)) cnt cnt 37 k = g0 37 k := by
    intro k k1 k2
    rw [mMt_37 _ cnt cnt k1, up2_s, upd_n k2, mVs_o _ _ _ (by decide) (by decide), f37]
  have e14 : up2 (mVs (aP (mS g0)) g1 cnt) 37 4 (mVs (aP (mS g0)) g1 cnt 37 4 + 1) 37 14 = g0 37 14 := by
    rw [up2_s, upd_n (by decide), mVs_o _ _ _ (by decide) (by decide), f37]
  refine ⟨?_, ?_, e37 8 (by decide) (by decide), e37 0 (by decide) (by decide), ?_⟩
  · exact (mS_of2 (e 38 (by decide) (by decide) (by decide)) (e 42 (by decide) (by decide) (by decide)) (e 43 (by decide) (by decide) (by decide)) (e 44 (by decide) (by decide) (by decide))).trans h1
  · exact (mQ_of2 (by rw [e37 0 (by decide) (by decide), f37]) (by rw [e37 1 (by decide) (by decide), f37]) (e 40 (by decide) (by decide) (by decide)) (e 45 (by decide) (by decide) (by decide))).trans h2
  · have := (mMt_o (up2 (mVs (aP (mS g0)) g1 cnt) 37 4 (mVs (aP (mS g0)) g1 cnt 37 4 + 1)) cnt cnt).2 (by rw [e14]; exact hm0) (by rw [e14]; exact hm1)
    rw [e14] at this
    exact this
theorem mSuccB_inv {cnt : Nat} {g0 g : jM} (hs : mSuccB cnt g0 g) : mS g = aBks (mQ g0) (mS g0) cnt cnt ∧ mQ g = mQ g0 ∧ g 37 8 = g0 37 8 ∧ g 37 0 = g0 37 0 := by
  obtain ⟨-, g1, h1, h2, h3, -, rfl⟩ := hs
  have f37 : g1 37 = g0 37 := h3 37 (by decide) (by decide) (by decide) (by decide) (by decide)
  have e : ∀ c, ¬ c = 37 → ¬ c = 39 → up2 (up2 (mVb (aBPl (mQ g0) (mS g0) cnt) g1 cnt) 37 4 (mVb (aBPl (mQ g0) (mS g0) cnt) g1 cnt 37 4 - 1)) 37 21 1 c = g1 c := by
    intro c c2 c3
    rw [up2_n c2, up2_n c2, mVb_o _ _ _ c3]
  have e37 : ∀ k, ¬ k = 21 → ¬ k = 4 → up2 (up2 (mVb (aBPl (mQ g0) (mS g0) cnt) g1 cnt) 37 4 (mVb (aBPl (mQ g0) (mS g0) cnt) g1 cnt 37 4 - 1)) 37 21 1 37 k = g0 37 k := by
    intro k k1 k2
    rw [up2_s, upd_n k1, up2_s, upd_n k2, mVb_o _ _ _ (by decide), f37]
  refine ⟨?_, ?_, e37 8 (by decide) (by decide), e37 0 (by decide) (by decide)⟩
  · exact (mS_of2 (e 38 (by decide) (by decide)) (e 42 (by decide) (by decide)) (e 43 (by decide) (by decide)) (e 44 (by decide) (by decide))).trans h1
  · exact (mQ_of2 (by rw [e37 0 (by decide) (by decide), f37]) (by rw [e37 1 (by decide) (by decide), f37]) (e 40 (by decide) (by decide)) (e 45 (by decide) (by decide))).trans h2
theorem mit_inv {cnt : Nat} {h : jM} (hc6 : cnt ≤ 6) (hcnt : h 37 8 = nI cnt) (hk : h 37 0 = 0 ∨ h 37 0 = 1) (hv : aVal (mQ h) (mS h) cnt) (hm0 : 0 ≤ (h 37 14).toInt) : ∀ (k : Nat), (h 37 14).toInt + 6 * k + 6 < 2147483648 → ∀ g, cIt (mSucc cnt) h k g → g 37 8 = nI cnt ∧ (g 37 0 = 0 ∨ g 37 0 = 1) ∧ aVal (mQ g) (mS g) cnt ∧ 0 ≤ (g 37 14).toInt ∧ (g 37 14).toInt ≤ (h 37 14).toInt + 6 * k
  | 0, _, g, hg => by
    cases hg
    exact ⟨hcnt, hk, hv, hm0, by omega⟩
  | k + 1, hb, g, hg => by
    obtain ⟨g0, h0, hs⟩ := hg
    obtain ⟨a1, ak, a2, a3, a4⟩ := mit_inv hc6 hcnt hk hv hm0 k (by omega) g0 h0
    obtain ⟨b1, b3, b4, bk, b5⟩ := mSucc_inv hs a3 (by omega)
    refine ⟨by rw [b4, a1], by rw [bk]; exact ak, ?_, by omega, by omega⟩
    rw [b3, b1]
    exact aVal_acts a2 cnt (Nat.le_refl _) hs.1
theorem mitB_inv {cnt : Nat} {h : jM} (hcnt : h 37 8 = nI cnt) (hk : h 37 0 = 0 ∨ h 37 0 = 1) (hv : aVal (mQ h) (mS h) cnt) : ∀ (k : Nat) g, cIt (mSuccB cnt) h k g → g 37 8 = nI cnt ∧ (g 37 0 = 0 ∨ g 37 0 = 1) ∧ aVal (mQ g) (mS g) cnt
  | 0, g, hg => by
    cases hg
    exact ⟨hcnt, hk, hv⟩
  | k + 1, g, hg => by
    obtain ⟨g0, h0, hs⟩ := hg
    obtain ⟨a1, ak, a2⟩ := mitB_inv hcnt hk hv k g0 h0
    obtain ⟨b1, b3, b4, bk⟩ := mSuccB_inv hs
    refine ⟨by rw [b4, a1], by rw [bk]; exact ak, ?_⟩
    rw [b3, b1]
    exact aVal_bks a2 cnt (Nat.le_refl _) hs.1

/-! X7_run -/
def T_X7_run : jT := fun vs K h Q => match vs with
  | [.ref r0, .int n] => r0 = 37 ∧ (jXM K ∧ (∃ cnt : Nat, cnt ≤ 6 ∧ h 37 8 = nI cnt ∧ (h 37 0 = 0 ∨ h 37 0 = 1) ∧ aVal (mQ h) (mS h) cnt ∧ (0 ≤ (h 37 14).toInt ∧ (h 37 14).toInt + 13000 < 2147483648) ∧ (n = 0 ∨ ¬ (-2000 ≤ n ∧ n ≤ 2000) → Q (some (.int (-1))) K h) ∧ (∀ w k g0, ¬ n = 0 → w ≤ 2000 → n = nI w → cIt (mSucc cnt) h k g0 → (k = w → Q (some (.int (nI k))) K g0) ∧ (k < w → ∀ g, mFail cnt g0 g → Q (some (.int (if k = 0 then -4 else nI k))) K g)) ∧ (∀ w k g0, ¬ n = 0 → w ≤ 2000 → n = -nI w → cIt (mSuccB cnt) h k g0 → (k = w → Q (some (.int (nI k))) K g0) ∧ (k < w → ∀ g, mFailB cnt g0 g → Q (some (.int (if k = 0 then -4 else nI k))) K g))))
  | _ => False
def sg_X7_run_0 : jS := [(o_iload 1, 1), (o_ifeq 17, 3), (o_iload 1, 1), (o_ic (-2000), 3), (o_ic (2000), 3), (o_call 3 T_X7_in, 3), (o_ifne 19, 3), (o_ic (-1), 1), (o_ireti, 1)]
def sg_X7_run_17 : jS := [(o_ic (-1), 1), (o_ireti, 1)]
def sg_X7_run_19 : jS := [(o_iload 1, 1), (o_ifge 29, 3), (o_ic (0), 1), (o_iload 1, 1), (o_isub, 1), (o_goto 30, 3)]
def sg_X7_run_29 : jS := [(o_iload 1, 1), (o_istore 2, 1), (o_ic (0), 1), (o_istore 3, 1), (o_ic (1), 1), (o_istore 4, 2)]
def sg_X7_run_30 : jS := [(o_istore 2, 1), (o_ic (0), 1), (o_istore 3, 1), (o_ic (1), 1), (o_istore 4, 2)]
def sg_X7_run_36 : jS := [(o_iload 4, 2), (o_ifeq 79, 3), (o_iload 3, 1), (o_iload 2, 1), (o_icge 79, 3), (o_iload 1, 1), (o_ifle 57, 3), (o_aload 0, 1), (o_callV 1 7 T_X7_steps, 3), (o_goto 61, 3)]
def sg_X7_run_57 : jS := [(o_aload 0, 1), (o_callV 1 7 T_X7_stepsBack, 3), (o_istore 4, 2), (o_iload 3, 1), (o_iload 4, 2), (o_ifeq 73, 3), (o_ic (1), 1), (o_goto 74, 3)]
def sg_X7_run_61 : jS := [(o_istore 4, 2), (o_iload 3, 1), (o_iload 4, 2), (o_ifeq 73, 3), (o_ic (1), 1), (o_goto 74, 3)]
def sg_X7_run_73 : jS := [(o_ic (0), 1), (o_iadd, 1), (o_istore 3, 1), (o_goto 36, 3)]
def sg_X7_run_74 : jS := [(o_iadd, 1), (o_istore 3, 1), (o_goto 36, 3)]
def sg_X7_run_79 : jS := [(o_iload 3, 1), (o_ifne 88, 3), (o_ic (-4), 2), (o_goto 89, 3)]
def sg_X7_run_88 : jS := [(o_iload 3, 1), (o_ireti, 1)]
def sg_X7_run_89 : jS := [(o_ireti, 1)]
def cd_X7_run : Nat → jS := fun t => match t with
  | 17 => sg_X7_run_17
  | 19 => sg_X7_run_19
  | 29 => sg_X7_run_29
  | 30 => sg_X7_run_30
  | 57 => sg_X7_run_57
  | 61 => sg_X7_run_61
  | 73 => sg_X7_run_73
  | 74 => sg_X7_run_74
  | 79 => sg_X7_run_79
  | 88 => sg_X7_run_88
  | 89 => sg_X7_run_89
  | _ => []
def E_X7_run (Γ : jΓ) (Q : jPost) : Prop := Γ.2.2.2.2.2.2.2.2.2.2.1 = 5 ∧ Γ.2.2.2.2.2.2.2.2.2.2.2.1 = vwCl ∧ jC Γ cX7_run RX7 "run" (some .int) wsX7_run 4 92 0 0 ∧ jR Γ Q 0 0
theorem oo_X7_run_0 {Γ : jΓ} {Q : jPost} (E : E_X7_run Γ Q) : jSA Γ Q 0 (o_iload 1) 1 := so_iload_n E.2.2.1 rfl dX7_run_0
theorem oo_X7_run_1 {Γ : jΓ} {Q : jPost} (E : E_X7_run Γ Q) : jSA Γ Q 1 (o_ifeq 17) 3 := so_ifeq E.2.2.1 (by decide) dX7_run_1
theorem oo_X7_run_4 {Γ : jΓ} {Q : jPost} (E : E_X7_run Γ Q) : jSA Γ Q 4 (o_iload 1) 1 := so_iload_n E.2.2.1 rfl dX7_run_4
theorem oo_X7_run_5 {Γ : jΓ} {Q : jPost} (E : E_X7_run Γ Q) : jSA Γ Q 5 (o_ic (-2000)) 3 := so_sipush E.2.2.1 rfl dX7_run_5
theorem oo_X7_run_8 {Γ : jΓ} {Q : jPost} (E : E_X7_run Γ Q) : jSA Γ Q 8 (o_ic (2000)) 3 := so_sipush E.2.2.1 rfl dX7_run_8
theorem oo_X7_run_11 {Γ : jΓ} {Q : jPost} (E : E_X7_run Γ Q) : jSA Γ Q 11 (o_call 3 T_X7_in) 3 := so_callS E.2.2.1 gX7_run_X7_in (by decide +kernel) rfl (by rw [E.2.1]; exact m_X7_in _) (by decide) (by decide) dX7_run_11
theorem oo_X7_run_14 {Γ : jΓ} {Q : jPost} (E : E_X7_run Γ Q) : jSA Γ Q 14 (o_ifne 19) 3 := so_ifne E.2.2.1 (by decide) dX7_run_14
theorem oo_X7_run_17 {Γ : jΓ} {Q : jPost} (E : E_X7_run Γ Q) : jSA Γ Q 17 (o_ic (-1)) 1 := so_iconst E.2.2.1 rfl dX7_run_17
theorem oo_X7_run_18 {Γ : jΓ} {Q : jPost} (E : E_X7_run Γ Q) : jSA Γ Q 18 (o_ireti) 1 := so_ireti E.2.2.1 E.2.2.2 dX7_run_18
theorem oo_X7_run_19 {Γ : jΓ} {Q : jPost} (E : E_X7_run Γ Q) : jSA Γ Q 19 (o_iload 1) 1 := so_iload_n E.2.2.1 rfl dX7_run_19
theorem oo_X7_run_20 {Γ : jΓ} {Q : jPost} (E : E_X7_run Γ Q) : jSA Γ Q 20 (o_ifge 29) 3 := so_ifge E.2.2.1 (by decide) dX7_run_20
theorem oo_X7_run_23 {Γ : jΓ} {Q : jPost} (E : E_X7_run Γ Q) : jSA Γ Q 23 (o_ic (0)) 1 := so_iconst E.2.2.1 rfl dX7_run_23
theorem oo_X7_run_24 {Γ : jΓ} {Q : jPost} (E : E_X7_run Γ Q) : jSA Γ Q 24 (o_iload 1) 1 := so_iload_n E.2.2.1 rfl dX7_run_24
theorem oo_X7_run_25 {Γ : jΓ} {Q : jPost} (E : E_X7_run Γ Q) : jSA Γ Q 25 (o_isub) 1 := so_isub E.2.2.1 dX7_run_25
theorem oo_X7_run_26 {Γ : jΓ} {Q : jPost} (E : E_X7_run Γ Q) : jSA Γ Q 26 (o_goto 30) 3 := so_goto E.2.2.1 (by decide) dX7_run_26
theorem oo_X7_run_29 {Γ : jΓ} {Q : jPost} (E : E_X7_run Γ Q) : jSA Γ Q 29 (o_iload 1) 1 := so_iload_n E.2.2.1 rfl dX7_run_29
theorem oo_X7_run_30 {Γ : jΓ} {Q : jPost} (E : E_X7_run Γ Q) : jSA Γ Q 30 (o_istore 2) 1 := so_istore_n E.2.2.1 rfl (by rw [E.1]; decide) dX7_run_30
theorem oo_X7_run_31 {Γ : jΓ} {Q : jPost} (E : E_X7_run Γ Q) : jSA Γ Q 31 (o_ic (0)) 1 := so_iconst E.2.2.1 rfl dX7_run_31
theorem oo_X7_run_32 {Γ : jΓ} {Q : jPost} (E : E_X7_run Γ Q) : jSA Γ Q 32 (o_istore 3) 1 := so_istore_n E.2.2.1 rfl (by rw [E.1]; decide) dX7_run_32
theorem oo_X7_run_33 {Γ : jΓ} {Q : jPost} (E : E_X7_run Γ Q) : jSA Γ Q 33 (o_ic (1)) 1 := so_iconst E.2.2.1 rfl dX7_run_33
theorem oo_X7_run_34 {Γ : jΓ} {Q : jPost} (E : E_X7_run Γ Q) : jSA Γ Q 34 (o_istore 4) 2 := so_istore E.2.2.1 (by rw [E.1]; decide) dX7_run_34
theorem oo_X7_run_36 {Γ : jΓ} {Q : jPost} (E : E_X7_run Γ Q) : jSA Γ Q 36 (o_iload 4) 2 := so_iload E.2.2.1 dX7_run_36
theorem oo_X7_run_38 {Γ : jΓ} {Q : jPost} (E : E_X7_run Γ Q) : jSA Γ Q 38 (o_ifeq 79) 3 := so_ifeq E.2.2.1 (by decide) dX7_run_38
theorem oo_X7_run_41 {Γ : jΓ} {Q : jPost} (E : E_X7_run Γ Q) : jSA Γ Q 41 (o_iload 3) 1 := so_iload_n E.2.2.1 rfl dX7_run_41
theorem oo_X7_run_42 {Γ : jΓ} {Q : jPost} (E : E_X7_run Γ Q) : jSA Γ Q 42 (o_iload 2) 1 := so_iload_n E.2.2.1 rfl dX7_run_42
theorem oo_X7_run_43 {Γ : jΓ} {Q : jPost} (E : E_X7_run Γ Q) : jSA Γ Q 43 (o_icge 79) 3 := so_icge E.2.2.1 (by decide) dX7_run_43
theorem oo_X7_run_46 {Γ : jΓ} {Q : jPost} (E : E_X7_run Γ Q) : jSA Γ Q 46 (o_iload 1) 1 := so_iload_n E.2.2.1 rfl dX7_run_46
theorem oo_X7_run_47 {Γ : jΓ} {Q : jPost} (E : E_X7_run Γ Q) : jSA Γ Q 47 (o_ifle 57) 3 := so_ifle E.2.2.1 (by decide) dX7_run_47
theorem oo_X7_run_50 {Γ : jΓ} {Q : jPost} (E : E_X7_run Γ Q) : jSA Γ Q 50 (o_aload 0) 1 := so_aload_n E.2.2.1 rfl dX7_run_50
theorem oo_X7_run_51 {Γ : jΓ} {Q : jPost} (E : E_X7_run Γ Q) : jSA Γ Q 51 (o_callV 1 7 T_X7_steps) 3 := so_callV E.2.2.1 (ci := 7) (by rw [E.2.1]; rfl) gX7_run_X7_steps (by decide +kernel) rfl (by rw [E.2.1]; exact m_X7_steps _) (by decide) (by decide) dX7_run_51
theorem oo_X7_run_54 {Γ : jΓ} {Q : jPost} (E : E_X7_run Γ Q) : jSA Γ Q 54 (o_goto 61) 3 := so_goto E.2.2.1 (by decide) dX7_run_54
theorem oo_X7_run_57 {Γ : jΓ} {Q : jPost} (E : E_X7_run Γ Q) : jSA Γ Q 57 (o_aload 0) 1 := so_aload_n E.2.2.1 rfl dX7_run_57
theorem oo_X7_run_58 {Γ : jΓ} {Q : jPost} (E : E_X7_run Γ Q) : jSA Γ Q 58 (o_callV 1 7 T_X7_stepsBack) 3 := so_callV E.2.2.1 (ci := 7) (by rw [E.2.1]; rfl) gX7_run_X7_stepsBack (by decide +kernel) rfl (by rw [E.2.1]; exact m_X7_stepsBack _) (by decide) (by decide) dX7_run_58
theorem oo_X7_run_61 {Γ : jΓ} {Q : jPost} (E : E_X7_run Γ Q) : jSA Γ Q 61 (o_istore 4) 2 := so_istore E.2.2.1 (by rw [E.1]; decide) dX7_run_61
theorem oo_X7_run_63 {Γ : jΓ} {Q : jPost} (E : E_X7_run Γ Q) : jSA Γ Q 63 (o_iload 3) 1 := so_iload_n E.2.2.1 rfl dX7_run_63
theorem oo_X7_run_64 {Γ : jΓ} {Q : jPost} (E : E_X7_run Γ Q) : jSA Γ Q 64 (o_iload 4) 2 := so_iload E.2.2.1 dX7_run_64
theorem oo_X7_run_66 {Γ : jΓ} {Q : jPost} (E : E_X7_run Γ Q) : jSA Γ Q 66 (o_ifeq 73) 3 := so_ifeq E.2.2.1 (by decide) dX7_run_66
theorem oo_X7_run_69 {Γ : jΓ} {Q : jPost} (E : E_X7_run Γ Q) : jSA Γ Q 69 (o_ic (1)) 1 := so_iconst E.2.2.1 rfl dX7_run_69
theorem oo_X7_run_70 {Γ : jΓ} {Q : jPost} (E : E_X7_run Γ Q) : jSA Γ Q 70 (o_goto 74) 3 := so_goto E.2.2.1 (by decide) dX7_run_70
theorem oo_X7_run_73 {Γ : jΓ} {Q : jPost} (E : E_X7_run Γ Q) : jSA Γ Q 73 (o_ic (0)) 1 := so_iconst E.2.2.1 rfl dX7_run_73
theorem oo_X7_run_74 {Γ : jΓ} {Q : jPost} (E : E_X7_run Γ Q) : jSA Γ Q 74 (o_iadd) 1 := so_iadd E.2.2.1 dX7_run_74
theorem oo_X7_run_75 {Γ : jΓ} {Q : jPost} (E : E_X7_run Γ Q) : jSA Γ Q 75 (o_istore 3) 1 := so_istore_n E.2.2.1 rfl (by rw [E.1]; decide) dX7_run_75
theorem oo_X7_run_76 {Γ : jΓ} {Q : jPost} (E : E_X7_run Γ Q) : jSA Γ Q 76 (o_goto 36) 3 := so_goto E.2.2.1 (by decide) dX7_run_76
theorem oo_X7_run_79 {Γ : jΓ} {Q : jPost} (E : E_X7_run Γ Q) : jSA Γ Q 79 (o_iload 3) 1 := so_iload_n E.2.2.1 rfl dX7_run_79
theorem oo_X7_run_80 {Γ : jΓ} {Q : jPost} (E : E_X7_run Γ Q) : jSA Γ Q 80 (o_ifne 88) 3 := so_ifne E.2.2.1 (by decide) dX7_run_80
theorem oo_X7_run_83 {Γ : jΓ} {Q : jPost} (E : E_X7_run Γ Q) : jSA Γ Q 83 (o_ic (-4)) 2 := so_bipush E.2.2.1 rfl dX7_run_83
theorem oo_X7_run_85 {Γ : jΓ} {Q : jPost} (E : E_X7_run Γ Q) : jSA Γ Q 85 (o_goto 89) 3 := so_goto E.2.2.1 (by decide) dX7_run_85
theorem oo_X7_run_88 {Γ : jΓ} {Q : jPost} (E : E_X7_run Γ Q) : jSA Γ Q 88 (o_iload 3) 1 := so_iload_n E.2.2.1 rfl dX7_run_88
theorem oo_X7_run_89 {Γ : jΓ} {Q : jPost} (E : E_X7_run Γ Q) : jSA Γ Q 89 (o_ireti) 1 := so_ireti E.2.2.1 E.2.2.2 dX7_run_89
theorem ok_X7_run_0 {Γ : jΓ} {Q : jPost} (E : E_X7_run Γ Q) : jSS Γ Q 0 sg_X7_run_0 := ⟨oo_X7_run_0 E, oo_X7_run_1 E, oo_X7_run_4 E, oo_X7_run_5 E, oo_X7_run_8 E, oo_X7_run_11 E, oo_X7_run_14 E, oo_X7_run_17 E, oo_X7_run_18 E, trivial⟩
theorem ok_X7_run_17 {Γ : jΓ} {Q : jPost} (E : E_X7_run Γ Q) : jSS Γ Q 17 sg_X7_run_17 := ⟨oo_X7_run_17 E, oo_X7_run_18 E, trivial⟩
theorem ok_X7_run_19 {Γ : jΓ} {Q : jPost} (E : E_X7_run Γ Q) : jSS Γ Q 19 sg_X7_run_19 := ⟨oo_X7_run_19 E, oo_X7_run_20 E, oo_X7_run_23 E, oo_X7_run_24 E, oo_X7_run_25 E, oo_X7_run_26 E, trivial⟩
theorem ok_X7_run_29 {Γ : jΓ} {Q : jPost} (E : E_X7_run Γ Q) : jSS Γ Q 29 sg_X7_run_29 := ⟨oo_X7_run_29 E, oo_X7_run_30 E, oo_X7_run_31 E, oo_X7_run_32 E, oo_X7_run_33 E, oo_X7_run_34 E, trivial⟩
theorem ok_X7_run_30 {Γ : jΓ} {Q : jPost} (E : E_X7_run Γ Q) : jSS Γ Q 30 sg_X7_run_30 := ⟨oo_X7_run_30 E, oo_X7_run_31 E, oo_X7_run_32 E, oo_X7_run_33 E, oo_X7_run_34 E, trivial⟩
theorem ok_X7_run_36 {Γ : jΓ} {Q : jPost} (E : E_X7_run Γ Q) : jSS Γ Q 36 sg_X7_run_36 := ⟨oo_X7_run_36 E, oo_X7_run_38 E, oo_X7_run_41 E, oo_X7_run_42 E, oo_X7_run_43 E, oo_X7_run_46 E, oo_X7_run_47 E, oo_X7_run_50 E, oo_X7_run_51 E, oo_X7_run_54 E, trivial⟩
theorem ok_X7_run_57 {Γ : jΓ} {Q : jPost} (E : E_X7_run Γ Q) : jSS Γ Q 57 sg_X7_run_57 := ⟨oo_X7_run_57 E, oo_X7_run_58 E, oo_X7_run_61 E, oo_X7_run_63 E, oo_X7_run_64 E, oo_X7_run_66 E, oo_X7_run_69 E, oo_X7_run_70 E, trivial⟩
theorem ok_X7_run_61 {Γ : jΓ} {Q : jPost} (E : E_X7_run Γ Q) : jSS Γ Q 61 sg_X7_run_61 := ⟨oo_X7_run_61 E, oo_X7_run_63 E, oo_X7_run_64 E, oo_X7_run_66 E, oo_X7_run_69 E, oo_X7_run_70 E, trivial⟩
theorem ok_X7_run_73 {Γ : jΓ} {Q : jPost} (E : E_X7_run Γ Q) : jSS Γ Q 73 sg_X7_run_73 := ⟨oo_X7_run_73 E, oo_X7_run_74 E, oo_X7_run_75 E, oo_X7_run_76 E, trivial⟩
theorem ok_X7_run_74 {Γ : jΓ} {Q : jPost} (E : E_X7_run Γ Q) : jSS Γ Q 74 sg_X7_run_74 := ⟨oo_X7_run_74 E, oo_X7_run_75 E, oo_X7_run_76 E, trivial⟩
theorem ok_X7_run_79 {Γ : jΓ} {Q : jPost} (E : E_X7_run Γ Q) : jSS Γ Q 79 sg_X7_run_79 := ⟨oo_X7_run_79 E, oo_X7_run_80 E, oo_X7_run_83 E, oo_X7_run_85 E, trivial⟩
theorem ok_X7_run_88 {Γ : jΓ} {Q : jPost} (E : E_X7_run Γ Q) : jSS Γ Q 88 sg_X7_run_88 := ⟨oo_X7_run_88 E, oo_X7_run_89 E, trivial⟩
theorem ok_X7_run_89 {Γ : jΓ} {Q : jPost} (E : E_X7_run Γ Q) : jSS Γ Q 89 sg_X7_run_89 := ⟨oo_X7_run_89 E, trivial⟩
theorem okc_X7_run {Γ : jΓ} {Q : jPost} (E : E_X7_run Γ Q) (t : Nat) : jSS Γ Q t (cd_X7_run t) := by
  unfold cd_X7_run
  split
  · exact ok_X7_run_17 E
  · exact ok_X7_run_19 E
  · exact ok_X7_run_29 E
  · exact ok_X7_run_30 E
  · exact ok_X7_run_57 E
  · exact ok_X7_run_61 E
  · exact ok_X7_run_73 E
  · exact ok_X7_run_74 E
  · exact ok_X7_run_79 E
  · exact ok_X7_run_88 E
  · exact ok_X7_run_89 E
  · trivial
theorem m_X7_run_of (l : Launch) (hv : ∀ (G : jGt) (Q : jPost) (vs : List Value) (K : List jK) (h : jM), jHd cd_X7_run G Q sg_X7_run_0 0 → jHd cd_X7_run G Q sg_X7_run_36 36 → T_X7_run vs K h Q → (lg_sl vs).length ≤ 5 ∧ G 0 (jinit vs 5) [] K h 0 0) : jHolds vwCl l yX7_run wsX7_run 4 92 0 0 T_X7_run := by
  refine jMet (cc := cX7_run) (maxL := 5) (rt := (some .int)) (by decide +kernel) rfl (fun Γ Q vs K h hl hn hcl C hR hT => hv (jG Γ) Q vs K h ?_ ?_ hT)
  · exact fun n L st K h ce sl => jwp_ok (okc_X7_run ⟨hn, hcl, C, hR⟩) n sg_X7_run_0 0 (ok_X7_run_0 ⟨hn, hcl, C, hR⟩) L st K h ce sl
  · exact fun n L st K h ce sl => jwp_ok (okc_X7_run ⟨hn, hcl, C, hR⟩) n sg_X7_run_36 36 (ok_X7_run_36 ⟨hn, hcl, C, hR⟩) L st K h ce sl
set_option maxHeartbeats 4000000 in
set_option maxRecDepth 100000 in
theorem v_X7_run {G : jGt} {Q : jPost} {K : List jK} {h : jM} {n : Int32} (hT : jXM K ∧ (∃ cnt : Nat, cnt ≤ 6 ∧ h 37 8 = nI cnt ∧ (h 37 0 = 0 ∨ h 37 0 = 1) ∧ aVal (mQ h) (mS h) cnt ∧ (0 ≤ (h 37 14).toInt ∧ (h 37 14).toInt + 13000 < 2147483648) ∧ (n = 0 ∨ ¬ (-2000 ≤ n ∧ n ≤ 2000) → Q (some (.int (-1))) K h) ∧ (∀ w k g0, ¬ n = 0 → w ≤ 2000 → n = nI w → cIt (mSucc cnt) h k g0 → (k = w → Q (some (.int (nI k))) K g0) ∧ (k < w → ∀ g, mFail cnt g0 g → Q (some (.int (if k = 0 then -4 else nI k))) K g)) ∧ (∀ w k g0, ¬ n = 0 → w ≤ 2000 → n = -nI w → cIt (mSuccB cnt) h k g0 → (k = w → Q (some (.int (nI k))) K g0) ∧ (k < w → ∀ g, mFailB cnt g0 g → Q (some (.int (if k = 0 then -4 else nI k))) K g)))) (H0 : jHd cd_X7_run G Q sg_X7_run_0 0) (H36 : jHd cd_X7_run G Q sg_X7_run_36 36) : G 0 [some (.ref 37), some (.int n), none, none, none] [] K h 0 0 := by
  obtain ⟨hM, cnt, hc6, hcnt, hk, hv, ⟨hm0, hm1⟩, hT0, hT1, hT2⟩ := hT
  refine H0 60 _ _ _ _ _ _ ?_
  by_cases c1 : n = 0
  · subst c1
    simp only [sg_X7_run_0, sg_X7_run_17, sg_X7_run_19, sg_X7_run_29, sg_X7_run_30, sg_X7_run_36, sg_X7_run_57, sg_X7_run_61, sg_X7_run_73, sg_X7_run_74, sg_X7_run_79, sg_X7_run_88, sg_X7_run_89, cd_X7_run, jwp, o_ic, o_lc, o_iload, o_lload, o_aload, o_istore, o_lstore, o_astore, o_iinc, o_pop, o_dup, o_dup2, o_iadd, o_isub, o_imul, o_iand, o_ior, o_ishl, o_ladd, o_lmul, o_land, o_lor, o_idiv, o_irem, o_ineg, o_i2l, o_l2i, o_i2b, o_i2s, o_lushr, o_lshr, o_lshl, o_lcmp, o_ifeq, o_ifne, o_iflt, o_ifge, o_ifgt, o_ifle, o_iceq, o_icne, o_iclt, o_icge, o_icgt, o_icle, o_goto, o_tsw, jsw, o_lsw, jlk, o_getf, o_putf, o_putz, o_iald, o_zald, o_iast, o_zast, o_aald, o_alen, o_gets, o_zld, o_zlen, o_cpy, o_call, o_callV, o_ireti, o_iretz, o_lret, o_vret, jg, js, jkp, jkill, jsp, jcs, jfw, jov, Value.category, Option.toList_some, Option.toList_none, List.nil_append, List.cons_append, List.append_nil, Nat.reduceAdd, true_and, and_true, jb0, jb01, jb1, jem, true_or, or_true, Classical.not_not, forall_const, List.length_cons, List.length_nil, Nat.reduceLeDiff, Nat.zero_le, Nat.reduceLT, and_self, not_true_eq_false, not_false_eq_true, false_imp_iff, true_imp_iff, implies_true, and_false, false_and, or_false, false_or, hM, km_37_0 hM, km_37_1 hM, km_37_2 hM, km_37_3 hM, km_37_4 hM, km_37_5 hM, km_37_6 hM, km_37_7 hM, km_37_8 hM, km_37_9 hM, km_37_10 hM, km_37_11 hM, km_37_12 hM, km_37_13 hM, km_37_14 hM, km_37_15 hM, km_37_16 hM, km_37_17 hM, km_37_18 hM, km_37_19 hM, km_37_20 hM, km_37_21 hM, km_37_22 hM, km_37_23 hM, km_37_24 hM, km_37_25 hM, km_37_26 hM, km_37_27 hM, km_37_28 hM, km_37_29 hM, km_37_30 hM, km_37_31 hM, km_37_32 hM, kmo_37 hM, kma_38 hM, kma_39 hM, kma_40 hM, kma_41 hM, kma_42 hM, kma_43 hM, kma_44 hM, kma_45 hM, kma_46 hM, kma_47 hM, kma_48 hM, kma_49 hM, kma_50 hM, kma_52 hM, kma_53 hM, kma_54 hM, kma_55 hM, kma_56 hM, kma_51 hM, T_X7_in]
    exact hT0 (Or.inl rfl)
  · by_cases c2 : -2000 ≤ n ∧ n ≤ 2000
    · have d1 : (-2000 : Int) ≤ n.toInt := le_of_lit c2.1
      have d2 : n.toInt ≤ (2000 : Int) := le_of_lit c2.2
      have d0 : ¬ n.toInt = 0 := fun z => c1 (Int32.toInt_inj.mp z)
      by_cases c3 : n ≤ 0
      · have d3 : n.toInt ≤ (0 : Int) := le_of_lit c3
        have c4 : n < 0 := by rw [Int32.lt_iff_toInt_lt]; show n.toInt < (0 : Int); omega
        have em : (-n).toInt = -n.toInt := ti_neg (by omega)
        obtain ⟨w, hw, ew⟩ := jnat (x := -n) (N := 2000) (by omega) (by omega)
        have en : n = -nI w := by
          rw [← ew]
          apply Int32.toInt_inj.mp
          rw [ti_neg (by omega), em]; omega
        have es : (0 : Int32) - n = nI w := by rw [← ew]; exact Int32.zero_sub n
        have hw0 : 0 < w := by
          have := congrArg Int32.toInt ew
          rw [em, nI_toInt (by omega)] at this
          omega
        have fin : ∀ k g0, k < w → cIt (mSuccB cnt) h k g0 → ∀ g, mFailB cnt g0 g → G 36 [some (.ref 37), some (.int n), some (.int (nI w)), some (.int (nI k)), some (.int 0)] [] K g 0 0 := by
          intro k g0 hk2 hg0 g hg
          have hq := (hT2 w k g0 c1 hw en hg0).2 hk2 g hg
          refine H36 60 _ _ _ _ _ _ ?_
          simp only [sg_X7_run_0, sg_X7_run_17, sg_X7_run_19, sg_X7_run_29, sg_X7_run_30, sg_X7_run_36, sg_X7_run_57, sg_X7_run_61, sg_X7_run_73, sg_X7_run_74, sg_X7_run_79, sg_X7_run_88, sg_X7_run_89, cd_X7_run, jwp, o_ic, o_lc, o_iload, o_lload, o_aload, o_istore, o_lstore, o_astore, o_iinc, o_pop, o_dup, o_dup2, o_iadd, o_isub, o_imul, o_iand, o_ior, o_ishl, o_ladd, o_lmul, o_land, o_lor, o_idiv, o_irem, o_ineg, o_i2l, o_l2i, o_i2b, o_i2s, o_lushr, o_lshr, o_lshl, o_lcmp, o_ifeq, o_ifne, o_iflt, o_ifge, o_ifgt, o_ifle, o_iceq, o_icne, o_iclt, o_icge, o_icgt, o_icle, o_goto, o_tsw, jsw, o_lsw, jlk, o_getf, o_putf, o_putz, o_iald, o_zald, o_iast, o_zast, o_aald, o_alen, o_gets, o_zld, o_zlen, o_cpy, o_call, o_callV, o_ireti, o_iretz, o_lret, o_vret, jg, js, jkp, jkill, jsp, jcs, jfw, jov, Value.category, Option.toList_some, Option.toList_none, List.nil_append, List.cons_append, List.append_nil, Nat.reduceAdd, true_and, and_true, jb0, jb01, jb1, jem, true_or, or_true, Classical.not_not, forall_const, List.length_cons, List.length_nil, Nat.reduceLeDiff, Nat.zero_le, Nat.reduceLT, and_self, not_true_eq_false, not_false_eq_true, false_imp_iff, true_imp_iff, implies_true, and_false, false_and, or_false, false_or, hM, km_37_0 hM, km_37_1 hM, km_37_2 hM, km_37_3 hM, km_37_4 hM, km_37_5 hM, km_37_6 hM, km_37_7 hM, km_37_8 hM, km_37_9 hM, km_37_10 hM, km_37_11 hM, km_37_12 hM, km_37_13 hM, km_37_14 hM, km_37_15 hM, km_37_16 hM, km_37_17 hM, km_37_18 hM, km_37_19 hM, km_37_20 hM, km_37_21 hM, km_37_22 hM, km_37_23 hM, km_37_24 hM, km_37_25 hM, km_37_26 hM, km_37_27 hM, km_37_28 hM, km_37_29 hM, km_37_30 hM, km_37_31 hM, km_37_32 hM, kmo_37 hM, kma_38 hM, kma_39 hM, kma_40 hM, kma_41 hM, kma_42 hM, kma_43 hM, kma_44 hM, kma_45 hM, kma_46 hM, kma_47 hM, kma_48 hM, kma_49 hM, kma_50 hM, kma_52 hM, kma_53 hM, kma_54 hM, kma_55 hM, kma_56 hM, kma_51 hM]
          by_cases ek : k = 0
          · subst ek
            rw [if_pos rfl] at hq
            exact ⟨fun z => absurd rfl z, fun _ => hq⟩
          · have hk0 : ¬ nI k = 0 := by rw [show (0 : Int32) = nI 0 from rfl, nI_eq (by omega) (by decide)]; exact ek
            rw [if_neg ek] at hq
            exact ⟨fun _ => hq, fun z => absurd z hk0⟩
        have loop : ∀ m k, k + m = w → ∀ g0, cIt (mSuccB cnt) h k g0 → G 36 [some (.ref 37), some (.int n), some (.int (nI w)), some (.int (nI k)), some (.int 1)] [] K g0 0 0 := by
          intro m
          induction m with
          | zero =>
            intro k hk2 g0 hg0
            have ek : k = w := by omega
            have hq := (hT2 w k g0 c1 hw en hg0).1 ek
            subst ek
            have hk0 : ¬ nI k = 0 := by rw [show (0 : Int32) = nI 0 from rfl, nI_eq (by omega) (by decide)]; omega
            have hle : nI k ≤ nI k := Int32.le_refl _
            refine H36 60 _ _ _ _ _ _ ?_
            simp only [sg_X7_run_0, sg_X7_run_17, sg_X7_run_19, sg_X7_run_29, sg_X7_run_30, sg_X7_run_36, sg_X7_run_57, sg_X7_run_61, sg_X7_run_73, sg_X7_run_74, sg_X7_run_79, sg_X7_run_88, sg_X7_run_89, cd_X7_run, jwp, o_ic, o_lc, o_iload, o_lload, o_aload, o_istore, o_lstore, o_astore, o_iinc, o_pop, o_dup, o_dup2, o_iadd, o_isub, o_imul, o_iand, o_ior, o_ishl, o_ladd, o_lmul, o_land, o_lor, o_idiv, o_irem, o_ineg, o_i2l, o_l2i, o_i2b, o_i2s, o_lushr, o_lshr, o_lshl, o_lcmp, o_ifeq, o_ifne, o_iflt, o_ifge, o_ifgt, o_ifle, o_iceq, o_icne, o_iclt, o_icge, o_icgt, o_icle, o_goto, o_tsw, jsw, o_lsw, jlk, o_getf, o_putf, o_putz, o_iald, o_zald, o_iast, o_zast, o_aald, o_alen, o_gets, o_zld, o_zlen, o_cpy, o_call, o_callV, o_ireti, o_iretz, o_lret, o_vret, jg, js, jkp, jkill, jsp, jcs, jfw, jov, Value.category, Option.toList_some, Option.toList_none, List.nil_append, List.cons_append, List.append_nil, Nat.reduceAdd, true_and, and_true, jb0, jb01, jb1, jem, true_or, or_true, Classical.not_not, forall_const, List.length_cons, List.length_nil, Nat.reduceLeDiff, Nat.zero_le, Nat.reduceLT, and_self, not_true_eq_false, not_false_eq_true, false_imp_iff, true_imp_iff, implies_true, and_false, false_and, or_false, false_or, hM, km_37_0 hM, km_37_1 hM, km_37_2 hM, km_37_3 hM, km_37_4 hM, km_37_5 hM, km_37_6 hM, km_37_7 hM, km_37_8 hM, km_37_9 hM, km_37_10 hM, km_37_11 hM, km_37_12 hM, km_37_13 hM, km_37_14 hM, km_37_15 hM, km_37_16 hM, km_37_17 hM, km_37_18 hM, km_37_19 hM, km_37_20 hM, km_37_21 hM, km_37_22 hM, km_37_23 hM, km_37_24 hM, km_37_25 hM, km_37_26 hM, km_37_27 hM, km_37_28 hM, km_37_29 hM, km_37_30 hM, km_37_31 hM, km_37_32 hM, kmo_37 hM, kma_38 hM, kma_39 hM, kma_40 hM, kma_41 hM, kma_42 hM, kma_43 hM, kma_44 hM, kma_45 hM, kma_46 hM, kma_47 hM, kma_48 hM, kma_49 hM, kma_50 hM, kma_52 hM, kma_53 hM, kma_54 hM, kma_55 hM, kma_56 hM, kma_51 hM, hk0, hle]
            exact ⟨fun _ => hq, fun _ => hq⟩
          | succ m ih =>
            intro k hk2 g0 hg0
            have hf := fin k g0 (by omega) hg0
            obtain ⟨a1, ak, a2⟩ := mitB_inv hcnt hk hv k g0 hg0
            have hle : ¬ nI w ≤ nI k := fun z => absurd ((nI_leI (by omega) (by omega)).mp z) (by omega)
            refine H36 60 _ _ _ _ _ _ ?_
            simp only [sg_X7_run_0, sg_X7_run_17, sg_X7_run_19, sg_X7_run_29, sg_X7_run_30, sg_X7_run_36, sg_X7_run_57, sg_X7_run_61, sg_X7_run_73, sg_X7_run_74, sg_X7_run_79, sg_X7_run_88, sg_X7_run_89, cd_X7_run, jwp, o_ic, o_lc, o_iload, o_lload, o_aload, o_istore, o_lstore, o_astore, o_iinc, o_pop, o_dup, o_dup2, o_iadd, o_isub, o_imul, o_iand, o_ior, o_ishl, o_ladd, o_lmul, o_land, o_lor, o_idiv, o_irem, o_ineg, o_i2l, o_l2i, o_i2b, o_i2s, o_lushr, o_lshr, o_lshl, o_lcmp, o_ifeq, o_ifne, o_iflt, o_ifge, o_ifgt, o_ifle, o_iceq, o_icne, o_iclt, o_icge, o_icgt, o_icle, o_goto, o_tsw, jsw, o_lsw, jlk, o_getf, o_putf, o_putz, o_iald, o_zald, o_iast, o_zast, o_aald, o_alen, o_gets, o_zld, o_zlen, o_cpy, o_call, o_callV, o_ireti, o_iretz, o_lret, o_vret, jg, js, jkp, jkill, jsp, jcs, jfw, jov, Value.category, Option.toList_some, Option.toList_none, List.nil_append, List.cons_append, List.append_nil, Nat.reduceAdd, true_and, and_true, jb0, jb01, jb1, jem, true_or, or_true, Classical.not_not, forall_const, List.length_cons, List.length_nil, Nat.reduceLeDiff, Nat.zero_le, Nat.reduceLT, and_self, not_true_eq_false, not_false_eq_true, false_imp_iff, true_imp_iff, implies_true, and_false, false_and, or_false, false_or, hM, km_37_0 hM, km_37_1 hM, km_37_2 hM, km_37_3 hM, km_37_4 hM, km_37_5 hM, km_37_6 hM, km_37_7 hM, km_37_8 hM, km_37_9 hM, km_37_10 hM, km_37_11 hM, km_37_12 hM, km_37_13 hM, km_37_14 hM, km_37_15 hM, km_37_16 hM, km_37_17 hM, km_37_18 hM, km_37_19 hM, km_37_20 hM, km_37_21 hM, km_37_22 hM, km_37_23 hM, km_37_24 hM, km_37_25 hM, km_37_26 hM, km_37_27 hM, km_37_28 hM, km_37_29 hM, km_37_30 hM, km_37_31 hM, km_37_32 hM, kmo_37 hM, kma_38 hM, kma_39 hM, kma_40 hM, kma_41 hM, kma_42 hM, kma_43 hM, kma_44 hM, kma_45 hM, kma_46 hM, kma_47 hM, kma_48 hM, kma_49 hM, kma_50 hM, kma_52 hM, kma_53 hM, kma_54 hM, kma_55 hM, kma_56 hM, kma_51 hM, hle, c3, T_X7_stepsBack]
            refine ⟨fun z => absurd z (by decide), fun _ => ⟨cnt, hc6, a1, ak, a2, fun hall g z1 z2 z3 z4 => ?_, fun hall g z1 z2 z3 => ?_⟩⟩
            · refine ⟨fun z => absurd z (by decide), fun _ => ?_⟩
              rw [nI_1]
              exact ih (k + 1) (by omega) _ ⟨g0, hg0, hall, g, z1, z2, z3, z4, rfl⟩
            · have h5 := hf g ⟨hall, z1, z2, z3⟩
              rw [Int32.add_zero]
              first | exact h5 | exact ⟨fun _ => h5, fun z => absurd rfl z⟩ | exact ⟨fun _ => h5, fun _ => h5⟩
        simp only [sg_X7_run_0, sg_X7_run_17, sg_X7_run_19, sg_X7_run_29, sg_X7_run_30, sg_X7_run_36, sg_X7_run_57, sg_X7_run_61, sg_X7_run_73, sg_X7_run_74, sg_X7_run_79, sg_X7_run_88, sg_X7_run_89, cd_X7_run, jwp, o_ic, o_lc, o_iload, o_lload, o_aload, o_istore, o_lstore, o_astore, o_iinc, o_pop, o_dup, o_dup2, o_iadd, o_isub, o_imul, o_iand, o_ior, o_ishl, o_ladd, o_lmul, o_land, o_lor, o_idiv, o_irem, o_ineg, o_i2l, o_l2i, o_i2b, o_i2s, o_lushr, o_lshr, o_lshl, o_lcmp, o_ifeq, o_ifne, o_iflt, o_ifge, o_ifgt, o_ifle, o_iceq, o_icne, o_iclt, o_icge, o_icgt, o_icle, o_goto, o_tsw, jsw, o_lsw, jlk, o_getf, o_putf, o_putz, o_iald, o_zald, o_iast, o_zast, o_aald, o_alen, o_gets, o_zld, o_zlen, o_cpy, o_call, o_callV, o_ireti, o_iretz, o_lret, o_vret, jg, js, jkp, jkill, jsp, jcs, jfw, jov, Value.category, Option.toList_some, Option.toList_none, List.nil_append, List.cons_append, List.append_nil, Nat.reduceAdd, true_and, and_true, jb0, jb01, jb1, jem, true_or, or_true, Classical.not_not, forall_const, List.length_cons, List.length_nil, Nat.reduceLeDiff, Nat.zero_le, Nat.reduceLT, and_self, not_true_eq_false, not_false_eq_true, false_imp_iff, true_imp_iff, implies_true, and_false, false_and, or_false, false_or, hM, km_37_0 hM, km_37_1 hM, km_37_2 hM, km_37_3 hM, km_37_4 hM, km_37_5 hM, km_37_6 hM, km_37_7 hM, km_37_8 hM, km_37_9 hM, km_37_10 hM, km_37_11 hM, km_37_12 hM, km_37_13 hM, km_37_14 hM, km_37_15 hM, km_37_16 hM, km_37_17 hM, km_37_18 hM, km_37_19 hM, km_37_20 hM, km_37_21 hM, km_37_22 hM, km_37_23 hM, km_37_24 hM, km_37_25 hM, km_37_26 hM, km_37_27 hM, km_37_28 hM, km_37_29 hM, km_37_30 hM, km_37_31 hM, km_37_32 hM, kmo_37 hM, kma_38 hM, kma_39 hM, kma_40 hM, kma_41 hM, kma_42 hM, kma_43 hM, kma_44 hM, kma_45 hM, kma_46 hM, kma_47 hM, kma_48 hM, kma_49 hM, kma_50 hM, kma_52 hM, kma_53 hM, kma_54 hM, kma_55 hM, kma_56 hM, kma_51 hM, T_X7_in, c1, c2, c4]
        rw [es]
        exact ⟨fun z => absurd z (Int32.not_le.mpr c4), fun _ => loop w 0 (by omega) h rfl⟩
      · have d3 : ¬ n.toInt ≤ (0 : Int) := fun z => c3 (by rw [Int32.le_iff_toInt_le]; exact z)
        have c4 : 0 ≤ n := by rw [Int32.le_iff_toInt_le]; show (0 : Int) ≤ n.toInt; omega
        obtain ⟨w, hw, ew⟩ := jnat (x := n) (N := 2000) (by omega) (by omega)
        have hw0 : 0 < w := by
          have := congrArg Int32.toInt ew
          rw [nI_toInt (by omega)] at this
          omega
        have fin : ∀ k g0, k < w → cIt (mSucc cnt) h k g0 → ∀ g, mFail cnt g0 g → G 36 [some (.ref 37), some (.int n), some (.int (nI w)), some (.int (nI k)), some (.int 0)] [] K g 0 0 := by
          intro k g0 hk2 hg0 g hg
          have hq := (hT1 w k g0 c1 hw ew hg0).2 hk2 g hg
          refine H36 60 _ _ _ _ _ _ ?_
          simp only [sg_X7_run_0, sg_X7_run_17, sg_X7_run_19, sg_X7_run_29, sg_X7_run_30, sg_X7_run_36, sg_X7_run_57, sg_X7_run_61, sg_X7_run_73, sg_X7_run_74, sg_X7_run_79, sg_X7_run_88, sg_X7_run_89, cd_X7_run, jwp, o_ic, o_lc, o_iload, o_lload, o_aload, o_istore, o_lstore, o_astore, o_iinc, o_pop, o_dup, o_dup2, o_iadd, o_isub, o_imul, o_iand, o_ior, o_ishl, o_ladd, o_lmul, o_land, o_lor, o_idiv, o_irem, o_ineg, o_i2l, o_l2i, o_i2b, o_i2s, o_lushr, o_lshr, o_lshl, o_lcmp, o_ifeq, o_ifne, o_iflt, o_ifge, o_ifgt, o_ifle, o_iceq, o_icne, o_iclt, o_icge, o_icgt, o_icle, o_goto, o_tsw, jsw, o_lsw, jlk, o_getf, o_putf, o_putz, o_iald, o_zald, o_iast, o_zast, o_aald, o_alen, o_gets, o_zld, o_zlen, o_cpy, o_call, o_callV, o_ireti, o_iretz, o_lret, o_vret, jg, js, jkp, jkill, jsp, jcs, jfw, jov, Value.category, Option.toList_some, Option.toList_none, List.nil_append, List.cons_append, List.append_nil, Nat.reduceAdd, true_and, and_true, jb0, jb01, jb1, jem, true_or, or_true, Classical.not_not, forall_const, List.length_cons, List.length_nil, Nat.reduceLeDiff, Nat.zero_le, Nat.reduceLT, and_self, not_true_eq_false, not_false_eq_true, false_imp_iff, true_imp_iff, implies_true, and_false, false_and, or_false, false_or, hM, km_37_0 hM, km_37_1 hM, km_37_2 hM, km_37_3 hM, km_37_4 hM, km_37_5 hM, km_37_6 hM, km_37_7 hM, km_37_8 hM, km_37_9 hM, km_37_10 hM, km_37_11 hM, km_37_12 hM, km_37_13 hM, km_37_14 hM, km_37_15 hM, km_37_16 hM, km_37_17 hM, km_37_18 hM, km_37_19 hM, km_37_20 hM, km_37_21 hM, km_37_22 hM, km_37_23 hM, km_37_24 hM, km_37_25 hM, km_37_26 hM, km_37_27 hM, km_37_28 hM, km_37_29 hM, km_37_30 hM, km_37_31 hM, km_37_32 hM, kmo_37 hM, kma_38 hM, kma_39 hM, kma_40 hM, kma_41 hM, kma_42 hM, kma_43 hM, kma_44 hM, kma_45 hM, kma_46 hM, kma_47 hM, kma_48 hM, kma_49 hM, kma_50 hM, kma_52 hM, kma_53 hM, kma_54 hM, kma_55 hM, kma_56 hM, kma_51 hM]
          by_cases ek : k = 0
          · subst ek
            rw [if_pos rfl] at hq
            exact ⟨fun z => absurd rfl z, fun _ => hq⟩
          · have hk0 : ¬ nI k = 0 := by rw [show (0 : Int32) = nI 0 from rfl, nI_eq (by omega) (by decide)]; exact ek
            rw [if_neg ek] at hq
            exact ⟨fun _ => hq, fun z => absurd z hk0⟩
        have loop : ∀ m k, k + m = w → ∀ g0, cIt (mSucc cnt) h k g0 → G 36 [some (.ref 37), some (.int n), some (.int (nI w)), some (.int (nI k)), some (.int 1)] [] K g0 0 0 := by
          intro m
          induction m with
          | zero =>
            intro k hk2 g0 hg0
            have ek : k = w := by omega
            have hq := (hT1 w k g0 c1 hw ew hg0).1 ek
            subst ek
            have hk0 : ¬ nI k = 0 := by rw [show (0 : Int32) = nI 0 from rfl, nI_eq (by omega) (by decide)]; omega
            have hle : nI k ≤ nI k := Int32.le_refl _
            refine H36 60 _ _ _ _ _ _ ?_
            simp only [sg_X7_run_0, sg_X7_run_17, sg_X7_run_19, sg_X7_run_29, sg_X7_run_30, sg_X7_run_36, sg_X7_run_57, sg_X7_run_61, sg_X7_run_73, sg_X7_run_74, sg_X7_run_79, sg_X7_run_88, sg_X7_run_89, cd_X7_run, jwp, o_ic, o_lc, o_iload, o_lload, o_aload, o_istore, o_lstore, o_astore, o_iinc, o_pop, o_dup, o_dup2, o_iadd, o_isub, o_imul, o_iand, o_ior, o_ishl, o_ladd, o_lmul, o_land, o_lor, o_idiv, o_irem, o_ineg, o_i2l, o_l2i, o_i2b, o_i2s, o_lushr, o_lshr, o_lshl, o_lcmp, o_ifeq, o_ifne, o_iflt, o_ifge, o_ifgt, o_ifle, o_iceq, o_icne, o_iclt, o_icge, o_icgt, o_icle, o_goto, o_tsw, jsw, o_lsw, jlk, o_getf, o_putf, o_putz, o_iald, o_zald, o_iast, o_zast, o_aald, o_alen, o_gets, o_zld, o_zlen, o_cpy, o_call, o_callV, o_ireti, o_iretz, o_lret, o_vret, jg, js, jkp, jkill, jsp, jcs, jfw, jov, Value.category, Option.toList_some, Option.toList_none, List.nil_append, List.cons_append, List.append_nil, Nat.reduceAdd, true_and, and_true, jb0, jb01, jb1, jem, true_or, or_true, Classical.not_not, forall_const, List.length_cons, List.length_nil, Nat.reduceLeDiff, Nat.zero_le, Nat.reduceLT, and_self, not_true_eq_false, not_false_eq_true, false_imp_iff, true_imp_iff, implies_true, and_false, false_and, or_false, false_or, hM, km_37_0 hM, km_37_1 hM, km_37_2 hM, km_37_3 hM, km_37_4 hM, km_37_5 hM, km_37_6 hM, km_37_7 hM, km_37_8 hM, km_37_9 hM, km_37_10 hM, km_37_11 hM, km_37_12 hM, km_37_13 hM, km_37_14 hM, km_37_15 hM, km_37_16 hM, km_37_17 hM, km_37_18 hM, km_37_19 hM, km_37_20 hM, km_37_21 hM, km_37_22 hM, km_37_23 hM, km_37_24 hM, km_37_25 hM, km_37_26 hM, km_37_27 hM, km_37_28 hM, km_37_29 hM, km_37_30 hM, km_37_31 hM, km_37_32 hM, kmo_37 hM, kma_38 hM, kma_39 hM, kma_40 hM, kma_41 hM, kma_42 hM, kma_43 hM, kma_44 hM, kma_45 hM, kma_46 hM, kma_47 hM, kma_48 hM, kma_49 hM, kma_50 hM, kma_52 hM, kma_53 hM, kma_54 hM, kma_55 hM, kma_56 hM, kma_51 hM, hk0, hle]
            exact ⟨fun _ => hq, fun _ => hq⟩
          | succ m ih =>
            intro k hk2 g0 hg0
            have hf := fin k g0 (by omega) hg0
            obtain ⟨a1, ak, a2, a3, a4⟩ := mit_inv hc6 hcnt hk hv hm0 k (by omega) g0 hg0
            have hle : ¬ nI w ≤ nI k := fun z => absurd ((nI_leI (by omega) (by omega)).mp z) (by omega)
            refine H36 60 _ _ _ _ _ _ ?_
            simp only [sg_X7_run_0, sg_X7_run_17, sg_X7_run_19, sg_X7_run_29, sg_X7_run_30, sg_X7_run_36, sg_X7_run_57, sg_X7_run_61, sg_X7_run_73, sg_X7_run_74, sg_X7_run_79, sg_X7_run_88, sg_X7_run_89, cd_X7_run, jwp, o_ic, o_lc, o_iload, o_lload, o_aload, o_istore, o_lstore, o_astore, o_iinc, o_pop, o_dup, o_dup2, o_iadd, o_isub, o_imul, o_iand, o_ior, o_ishl, o_ladd, o_lmul, o_land, o_lor, o_idiv, o_irem, o_ineg, o_i2l, o_l2i, o_i2b, o_i2s, o_lushr, o_lshr, o_lshl, o_lcmp, o_ifeq, o_ifne, o_iflt, o_ifge, o_ifgt, o_ifle, o_iceq, o_icne, o_iclt, o_icge, o_icgt, o_icle, o_goto, o_tsw, jsw, o_lsw, jlk, o_getf, o_putf, o_putz, o_iald, o_zald, o_iast, o_zast, o_aald, o_alen, o_gets, o_zld, o_zlen, o_cpy, o_call, o_callV, o_ireti, o_iretz, o_lret, o_vret, jg, js, jkp, jkill, jsp, jcs, jfw, jov, Value.category, Option.toList_some, Option.toList_none, List.nil_append, List.cons_append, List.append_nil, Nat.reduceAdd, true_and, and_true, jb0, jb01, jb1, jem, true_or, or_true, Classical.not_not, forall_const, List.length_cons, List.length_nil, Nat.reduceLeDiff, Nat.zero_le, Nat.reduceLT, and_self, not_true_eq_false, not_false_eq_true, false_imp_iff, true_imp_iff, implies_true, and_false, false_and, or_false, false_or, hM, km_37_0 hM, km_37_1 hM, km_37_2 hM, km_37_3 hM, km_37_4 hM, km_37_5 hM, km_37_6 hM, km_37_7 hM, km_37_8 hM, km_37_9 hM, km_37_10 hM, km_37_11 hM, km_37_12 hM, km_37_13 hM, km_37_14 hM, km_37_15 hM, km_37_16 hM, km_37_17 hM, km_37_18 hM, km_37_19 hM, km_37_20 hM, km_37_21 hM, km_37_22 hM, km_37_23 hM, km_37_24 hM, km_37_25 hM, km_37_26 hM, km_37_27 hM, km_37_28 hM, km_37_29 hM, km_37_30 hM, km_37_31 hM, km_37_32 hM, kmo_37 hM, kma_38 hM, kma_39 hM, kma_40 hM, kma_41 hM, kma_42 hM, kma_43 hM, kma_44 hM, kma_45 hM, kma_46 hM, kma_47 hM, kma_48 hM, kma_49 hM, kma_50 hM, kma_52 hM, kma_53 hM, kma_54 hM, kma_55 hM, kma_56 hM, kma_51 hM, hle, c3, T_X7_steps]
            refine ⟨fun z => absurd z (by decide), fun _ => ⟨cnt, hc6, a1, ⟨a3, by omega⟩, ak, a2, fun hall g z1 z2 z3 z4 => ?_, fun hall g z1 z2 z3 => ?_⟩⟩
            · refine ⟨fun z => absurd z (by decide), fun _ => ?_⟩
              rw [nI_1]
              exact ih (k + 1) (by omega) _ ⟨g0, hg0, hall, g, z1, z2, z3, z4, rfl⟩
            · have h5 := hf g ⟨hall, z1, z2, z3⟩
              rw [Int32.add_zero]
              first | exact h5 | exact ⟨fun _ => h5, fun z => absurd rfl z⟩ | exact ⟨fun _ => h5, fun _ => h5⟩
        have h9 := loop w 0 (by omega) h rfl
        rw [← ew] at h9
        simp only [sg_X7_run_0, sg_X7_run_17, sg_X7_run_19, sg_X7_run_29, sg_X7_run_30, sg_X7_run_36, sg_X7_run_57, sg_X7_run_61, sg_X7_run_73, sg_X7_run_74, sg_X7_run_79, sg_X7_run_88, sg_X7_run_89, cd_X7_run, jwp, o_ic, o_lc, o_iload, o_lload, o_aload, o_istore, o_lstore, o_astore, o_iinc, o_pop, o_dup, o_dup2, o_iadd, o_isub, o_imul, o_iand, o_ior, o_ishl, o_ladd, o_lmul, o_land, o_lor, o_idiv, o_irem, o_ineg, o_i2l, o_l2i, o_i2b, o_i2s, o_lushr, o_lshr, o_lshl, o_lcmp, o_ifeq, o_ifne, o_iflt, o_ifge, o_ifgt, o_ifle, o_iceq, o_icne, o_iclt, o_icge, o_icgt, o_icle, o_goto, o_tsw, jsw, o_lsw, jlk, o_getf, o_putf, o_putz, o_iald, o_zald, o_iast, o_zast, o_aald, o_alen, o_gets, o_zld, o_zlen, o_cpy, o_call, o_callV, o_ireti, o_iretz, o_lret, o_vret, jg, js, jkp, jkill, jsp, jcs, jfw, jov, Value.category, Option.toList_some, Option.toList_none, List.nil_append, List.cons_append, List.append_nil, Nat.reduceAdd, true_and, and_true, jb0, jb01, jb1, jem, true_or, or_true, Classical.not_not, forall_const, List.length_cons, List.length_nil, Nat.reduceLeDiff, Nat.zero_le, Nat.reduceLT, and_self, not_true_eq_false, not_false_eq_true, false_imp_iff, true_imp_iff, implies_true, and_false, false_and, or_false, false_or, hM, km_37_0 hM, km_37_1 hM, km_37_2 hM, km_37_3 hM, km_37_4 hM, km_37_5 hM, km_37_6 hM, km_37_7 hM, km_37_8 hM, km_37_9 hM, km_37_10 hM, km_37_11 hM, km_37_12 hM, km_37_13 hM, km_37_14 hM, km_37_15 hM, km_37_16 hM, km_37_17 hM, km_37_18 hM, km_37_19 hM, km_37_20 hM, km_37_21 hM, km_37_22 hM, km_37_23 hM, km_37_24 hM, km_37_25 hM, km_37_26 hM, km_37_27 hM, km_37_28 hM, km_37_29 hM, km_37_30 hM, km_37_31 hM, km_37_32 hM, kmo_37 hM, kma_38 hM, kma_39 hM, kma_40 hM, kma_41 hM, kma_42 hM, kma_43 hM, kma_44 hM, kma_45 hM, kma_46 hM, kma_47 hM, kma_48 hM, kma_49 hM, kma_50 hM, kma_52 hM, kma_53 hM, kma_54 hM, kma_55 hM, kma_56 hM, kma_51 hM, T_X7_in, c1, c2, c4]
        exact h9
    · have hT0 := hT0 (Or.inr c2)
      simp only [sg_X7_run_0, sg_X7_run_17, sg_X7_run_19, sg_X7_run_29, sg_X7_run_30, sg_X7_run_36, sg_X7_run_57, sg_X7_run_61, sg_X7_run_73, sg_X7_run_74, sg_X7_run_79, sg_X7_run_88, sg_X7_run_89, cd_X7_run, jwp, o_ic, o_lc, o_iload, o_lload, o_aload, o_istore, o_lstore, o_astore, o_iinc, o_pop, o_dup, o_dup2, o_iadd, o_isub, o_imul, o_iand, o_ior, o_ishl, o_ladd, o_lmul, o_land, o_lor, o_idiv, o_irem, o_ineg, o_i2l, o_l2i, o_i2b, o_i2s, o_lushr, o_lshr, o_lshl, o_lcmp, o_ifeq, o_ifne, o_iflt, o_ifge, o_ifgt, o_ifle, o_iceq, o_icne, o_iclt, o_icge, o_icgt, o_icle, o_goto, o_tsw, jsw, o_lsw, jlk, o_getf, o_putf, o_putz, o_iald, o_zald, o_iast, o_zast, o_aald, o_alen, o_gets, o_zld, o_zlen, o_cpy, o_call, o_callV, o_ireti, o_iretz, o_lret, o_vret, jg, js, jkp, jkill, jsp, jcs, jfw, jov, Value.category, Option.toList_some, Option.toList_none, List.nil_append, List.cons_append, List.append_nil, Nat.reduceAdd, true_and, and_true, jb0, jb01, jb1, jem, true_or, or_true, Classical.not_not, forall_const, List.length_cons, List.length_nil, Nat.reduceLeDiff, Nat.zero_le, Nat.reduceLT, and_self, not_true_eq_false, not_false_eq_true, false_imp_iff, true_imp_iff, implies_true, and_false, false_and, or_false, false_or, hM, km_37_0 hM, km_37_1 hM, km_37_2 hM, km_37_3 hM, km_37_4 hM, km_37_5 hM, km_37_6 hM, km_37_7 hM, km_37_8 hM, km_37_9 hM, km_37_10 hM, km_37_11 hM, km_37_12 hM, km_37_13 hM, km_37_14 hM, km_37_15 hM, km_37_16 hM, km_37_17 hM, km_37_18 hM, km_37_19 hM, km_37_20 hM, km_37_21 hM, km_37_22 hM, km_37_23 hM, km_37_24 hM, km_37_25 hM, km_37_26 hM, km_37_27 hM, km_37_28 hM, km_37_29 hM, km_37_30 hM, km_37_31 hM, km_37_32 hM, kmo_37 hM, kma_38 hM, kma_39 hM, kma_40 hM, kma_41 hM, kma_42 hM, kma_43 hM, kma_44 hM, kma_45 hM, kma_46 hM, kma_47 hM, kma_48 hM, kma_49 hM, kma_50 hM, kma_52 hM, kma_53 hM, kma_54 hM, kma_55 hM, kma_56 hM, kma_51 hM, T_X7_in, c1, c2]
      exact hT0
theorem m_X7_run (l : Launch) : jHolds vwCl l yX7_run wsX7_run 4 92 0 0 T_X7_run := by
  refine m_X7_run_of l (fun G Q vs K h H0 H36 hT => ?_)
  unfold T_X7_run at hT
  split at hT
  · obtain ⟨rfl, hT⟩ := hT
    exact ⟨Nat.le_of_ble_eq_true rfl, v_X7_run hT H0 H36⟩
  · exact hT.elim
