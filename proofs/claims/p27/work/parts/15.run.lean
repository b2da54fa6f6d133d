/-! ===== runs of steps ===== -/
/-- a step that is done -/
def cSucc (cnt : Nat) (g0 g : jM) : Prop := aAll (vQ g0) (vS g0) cnt ∧ ∃ g1, vS g1 = aActs (vQ g0) (vS g0) cnt ∧ g1 3 = vB (aP (vS g0)) (g0 3) cnt ∧ vQ g1 = vQ g0 ∧ frB g0 g1 ∧ (∀ b, b < cnt → g1 18 b = nI (aP (vS g0) b)) ∧ g = (cNt (jtr (up2 g1 0 8 (g1 0 8 + 1)) cnt) cnt cnt).2
def cFail (cnt : Nat) (g0 g : jM) : Prop := ¬ aAll (vQ g0) (vS g0) cnt ∧ vS g = vS g0 ∧ g 3 = g0 3 ∧ vQ g = vQ g0 ∧ frB g0 g
def cSuccB (cnt : Nat) (g0 g : jM) : Prop := aBAll (vQ g0) (vS g0) cnt ∧ ∃ g1, vS g1 = aBks (vQ g0) (vS g0) cnt cnt ∧ g1 3 = vL (aBPl (vQ g0) (vS g0) cnt) (g0 3) cnt cnt ∧ vQ g1 = vQ g0 ∧ frS g0 g1 ∧ g = up2 (up2 g1 0 8 (g1 0 8 - 1)) 24 1 1
def cFailB (cnt : Nat) (g0 g : jM) : Prop := ¬ aBAll (vQ g0) (vS g0) cnt ∧ vS g = vS g0 ∧ g 3 = g0 3 ∧ vQ g = vQ g0 ∧ frS g0 g
/-- k times -/
def cIt (S : jM → jM → Prop) (h : jM) : Nat → jM → Prop
  | 0, g => g = h
  | k + 1, g => ∃ g0, cIt S h k g0 ∧ S g0 g
theorem vX_of {g h : jM} (hc : ∀ c, 12 ≤ c ∧ c < 18 → g c = h c) (k : Nat) : vX g k = vX h k := by
  funext i
  unfold vX
  by_cases hi : i < 6
  · rw [if_pos hi, if_pos hi, hc _ (by omega)]
  · rw [if_neg hi, if_neg hi]
theorem vS_of {g h : jM} (h2 : g 2 = h 2) (hc : ∀ c, 12 ≤ c ∧ c < 18 → g c = h c) : vS g = vS h := by
  unfold vS; rw [h2, vX_of hc, vX_of hc, vX_of hc]
theorem vQ_of {g h : jM} (h1 : g 1 = h 1) (hr : ∀ c, 6 ≤ c ∧ c < 10 → g c = h c) (hc : ∀ c, 12 ≤ c ∧ c < 18 → g c = h c) : vQ g = vQ h := by
  unfold vQ
  rw [h1, vX_of hc]
  have e2 : (fun r c : Nat => if r < 4 ∧ (c : Int) < (h 1 1).toInt then g (6 + r) c else 0) = (fun r c : Nat => if r < 4 ∧ (c : Int) < (h 1 1).toInt then h (6 + r) c else 0) := by
    funext r c
    by_cases q : r < 4 ∧ (c : Int) < (h 1 1).toInt
    · rw [if_pos q, if_pos q, hr _ (by omega)]
    · rw [if_neg q, if_neg q]
  rw [e2]
/-- behind a step: what the state is -/
theorem succ_inv {cnt : Nat} {g0 g : jM} (hs : cSucc cnt g0 g) (hm0 : 0 ≤ (g0 19 0).toInt) (hm1 : (g0 19 0).toInt + cnt < 2147483648) : vS g = aActs (vQ g0) (vS g0) cnt ∧ g 3 = vB (aP (vS g0)) (g0 3) cnt ∧ vQ g = vQ g0 ∧ g 0 7 = g0 0 7 ∧ ((g0 19 0).toInt ≤ (g 19 0).toInt ∧ (g 19 0).toInt ≤ (g0 19 0).toInt + cnt) := by
  obtain ⟨-, g1, h1, h2, h3, h4, -, rfl⟩ := hs
  have e : ∀ c, ¬ (19 ≤ c ∧ c < 24) → ¬ c = 24 → ¬ c = 27 → ¬ c = 0 → (cNt (jtr (up2 g1 0 8 (g1 0 8 + 1)) cnt) cnt cnt).2 c = g1 c := by
    intro c c1 c2 c3 c4
    rw [(cNt_o _ cnt cnt).1 c c1, jtr_o _ c2 c3, up2_n c4]
  have e19 : jtr (up2 g1 0 8 (g1 0 8 + 1)) cnt 19 0 = g0 19 0 := by
    rw [jtr_o _ (by decide) (by decide), up2_n (by decide), h4 19 (by decide) (by decide) (by decide) (by decide)]
  refine ⟨?_, ?_, ?_, ?_, ?_⟩
  · rw [vS_of (e 2 (by decide) (by decide) (by decide) (by decide)) (fun c hc => e c (by omega) (by omega) (by omega) (by omega)), h1]
  · rw [e 3 (by decide) (by decide) (by decide) (by decide), h2]
  · rw [vQ_of (e 1 (by decide) (by decide) (by decide) (by decide)) (fun c hc => e c (by omega) (by omega) (by omega) (by omega)) (fun c hc => e c (by omega) (by omega) (by omega) (by omega)), h3]
  · rw [(cNt_o _ cnt cnt).1 0 (by decide), jtr_o _ (by decide) (by decide), up2_s, upd_n (by decide), h4 0 (by decide) (by decide) (by decide) (by decide)]
  · have := (cNt_o (jtr (up2 g1 0 8 (g1 0 8 + 1)) cnt) cnt cnt).2 (by rw [e19]; exact hm0) (by rw [e19]; exact hm1)
    rw [e19] at this
    exact this
theorem succB_inv {cnt : Nat} {g0 g : jM} (hs : cSuccB cnt g0 g) : vS g = aBks (vQ g0) (vS g0) cnt cnt ∧ g 3 = vL (aBPl (vQ g0) (vS g0) cnt) (g0 3) cnt cnt ∧ vQ g = vQ g0 ∧ g 0 7 = g0 0 7 ∧ g 19 = g0 19 := by
  obtain ⟨-, g1, h1, h2, h3, h4, rfl⟩ := hs
  have e : ∀ c, ¬ c = 24 → ¬ c = 0 → up2 (up2 g1 0 8 (g1 0 8 - 1)) 24 1 1 c = g1 c := by
    intro c c2 c4
    rw [up2_n c2, up2_n c4]
  refine ⟨?_, ?_, ?_, ?_, ?_⟩
  · rw [vS_of (e 2 (by decide) (by decide)) (fun c hc => e c (by omega) (by omega)), h1]
  · rw [e 3 (by decide) (by decide), h2]
  · rw [vQ_of (e 1 (by decide) (by decide)) (fun c hc => e c (by omega) (by omega)) (fun c hc => e c (by omega) (by omega)), h3]
  · rw [up2_n (by decide), up2_s, upd_n (by decide), h4 0 (by decide) (by decide) (by decide)]
  · rw [e 19 (by decide) (by decide), h4 19 (by decide) (by decide) (by decide)]
/-- all along a run -/
theorem it_inv {cnt : Nat} {h : jM} (hc6 : cnt ≤ 6) (hcnt : h 0 7 = nI cnt) (hv : aVal (vQ h) (vS h) cnt) (hm0 : 0 ≤ (h 19 0).toInt) : ∀ (k : Nat), (h 19 0).toInt + 6 * k + 6 < 2147483648 → ∀ g, cIt (cSucc cnt) h k g → g 0 7 = nI cnt ∧ aVal (vQ g) (vS g) cnt ∧ 0 ≤ (g 19 0).toInt ∧ (g 19 0).toInt ≤ (h 19 0).toInt + 6 * k
  | 0, _, g, hg => by
    cases hg
    exact ⟨hcnt, hv, hm0, by omega⟩
  | k + 1, hb, g, hg => by
    obtain ⟨g0, h0, hs⟩ := hg
    obtain ⟨a1, a2, a3, a4⟩ := it_inv hc6 hcnt hv hm0 k (by omega) g0 h0
    obtain ⟨b1, b2, b3, b4, b5⟩ := succ_inv hs a3 (by omega)
    refine ⟨by rw [b4, a1], ?_, by omega, by omega⟩
    rw [b3, b1]
    exact aVal_acts a2 cnt (Nat.le_refl _) hs.1
theorem itB_inv {cnt : Nat} {h : jM} (hcnt : h 0 7 = nI cnt) (hv : aVal (vQ h) (vS h) cnt) : ∀ (k : Nat) g, cIt (cSuccB cnt) h k g → g 0 7 = nI cnt ∧ aVal (vQ g) (vS g) cnt
  | 0, g, hg => by
    cases hg
    exact ⟨hcnt, hv⟩
  | k + 1, g, hg => by
    obtain ⟨g0, h0, hs⟩ := hg
    obtain ⟨a1, a2⟩ := itB_inv hcnt hv k g0 h0
    obtain ⟨b1, b2, b3, b4, b5⟩ := succB_inv hs
    refine ⟨by rw [b4, a1], ?_⟩
    rw [b3, b1]
    exact aVal_bks a2 cnt (Nat.le_refl _) hs.1

/-! X6_run -/
def T_X6_run : jT := fun vs K h Q => match vs with
  | [.ref r0, .int n] => r0 = 0 ∧ (jX K ∧ (∃ cnt : Nat, cnt ≤ 6 ∧ h 0 7 = nI cnt ∧ aVal (vQ h) (vS h) cnt ∧ (0 ≤ (h 19 0).toInt ∧ (h 19 0).toInt + 13000 < 2147483648) ∧ (n = 0 ∨ ¬ (-2000 ≤ n ∧ n ≤ 2000) → Q (some (.int (-1))) K h) ∧ (∀ w k g0, ¬ n = 0 → w ≤ 2000 → n = nI w → cIt (cSucc cnt) h k g0 → (k = w → Q (some (.int (nI k))) K g0) ∧ (k < w → ∀ g, cFail cnt g0 g → Q (some (.int (if k = 0 then -4 else nI k))) K g)) ∧ (∀ w k g0, ¬ n = 0 → w ≤ 2000 → n = -nI w → cIt (cSuccB cnt) h k g0 → (k = w → Q (some (.int (nI k))) K g0) ∧ (k < w → ∀ g, cFailB cnt g0 g → Q (some (.int (if k = 0 then -4 else nI k))) K g))))
  | _ => False
def sg_X6_run_0 : jS := [(o_iload 1, 1), (o_ifeq 17, 3), (o_iload 1, 1), (o_ic (-2000), 3), (o_ic (2000), 3), (o_call 3 T_X6_isWithin, 3), (o_ifne 19, 3), (o_ic (-1), 1), (o_ireti, 1)]
def sg_X6_run_17 : jS := [(o_ic (-1), 1), (o_ireti, 1)]
def sg_X6_run_19 : jS := [(o_iload 1, 1), (o_ifle 27, 3), (o_iload 1, 1), (o_goto 29, 3)]
def sg_X6_run_27 : jS := [(o_iload 1, 1), (o_ineg, 1), (o_istore 2, 1), (o_ic (0), 1), (o_istore 3, 1)]
def sg_X6_run_29 : jS := [(o_istore 2, 1), (o_ic (0), 1), (o_istore 3, 1)]
def sg_X6_run_32 : jS := [(o_iload 3, 1), (o_iload 2, 1), (o_icge 64, 3), (o_iload 1, 1), (o_ifle 51, 3), (o_aload 0, 1), (o_callV 1 6 T_X6_stepAhead, 3), (o_ifeq 64, 3), (o_goto 58, 3)]
def sg_X6_run_51 : jS := [(o_aload 0, 1), (o_callV 1 6 T_X6_stepBack, 3), (o_ifeq 64, 3), (o_iinc 3 (1), 3), (o_goto 32, 3)]
def sg_X6_run_58 : jS := [(o_iinc 3 (1), 3), (o_goto 32, 3)]
def sg_X6_run_64 : jS := [(o_iload 3, 1), (o_ifne 73, 3), (o_ic (-4), 2), (o_goto 74, 3)]
def sg_X6_run_73 : jS := [(o_iload 3, 1), (o_ireti, 1)]
def sg_X6_run_74 : jS := [(o_ireti, 1)]
def cd_X6_run : Nat → jS := fun t => match t with
  | 17 => sg_X6_run_17
  | 19 => sg_X6_run_19
  | 27 => sg_X6_run_27
  | 29 => sg_X6_run_29
  | 51 => sg_X6_run_51
  | 58 => sg_X6_run_58
  | 64 => sg_X6_run_64
  | 73 => sg_X6_run_73
  | 74 => sg_X6_run_74
  | _ => []
def E_X6_run (Γ : jΓ) (Q : jPost) : Prop := Γ.2.2.2.2.2.2.2.2.2.2.1 = 4 ∧ Γ.2.2.2.2.2.2.2.2.2.2.2.1 = vwCl ∧ jC Γ cX6_run RX6 "run" (some .int) wsX6_run 5 112 0 0 ∧ jR Γ Q 0 0
theorem oo_X6_run_0 {Γ : jΓ} {Q : jPost} (E : E_X6_run Γ Q) : jSA Γ Q 0 (o_iload 1) 1 := so_iload_n E.2.2.1 rfl dX6_run_0
theorem oo_X6_run_1 {Γ : jΓ} {Q : jPost} (E : E_X6_run Γ Q) : jSA Γ Q 1 (o_ifeq 17) 3 := so_ifeq E.2.2.1 (by decide) dX6_run_1
theorem oo_X6_run_4 {Γ : jΓ} {Q : jPost} (E : E_X6_run Γ Q) : jSA Γ Q 4 (o_iload 1) 1 := so_iload_n E.2.2.1 rfl dX6_run_4
theorem oo_X6_run_5 {Γ : jΓ} {Q : jPost} (E : E_X6_run Γ Q) : jSA Γ Q 5 (o_ic (-2000)) 3 := so_sipush E.2.2.1 rfl dX6_run_5
theorem oo_X6_run_8 {Γ : jΓ} {Q : jPost} (E : E_X6_run Γ Q) : jSA Γ Q 8 (o_ic (2000)) 3 := so_sipush E.2.2.1 rfl dX6_run_8
theorem oo_X6_run_11 {Γ : jΓ} {Q : jPost} (E : E_X6_run Γ Q) : jSA Γ Q 11 (o_call 3 T_X6_isWithin) 3 := so_callS E.2.2.1 gX6_run_X6_isWithin (by decide +kernel) rfl (by rw [E.2.1]; exact m_X6_isWithin _) (by decide) (by decide) dX6_run_11
theorem oo_X6_run_14 {Γ : jΓ} {Q : jPost} (E : E_X6_run Γ Q) : jSA Γ Q 14 (o_ifne 19) 3 := so_ifne E.2.2.1 (by decide) dX6_run_14
theorem oo_X6_run_17 {Γ : jΓ} {Q : jPost} (E : E_X6_run Γ Q) : jSA Γ Q 17 (o_ic (-1)) 1 := so_iconst E.2.2.1 rfl dX6_run_17
theorem oo_X6_run_18 {Γ : jΓ} {Q : jPost} (E : E_X6_run Γ Q) : jSA Γ Q 18 (o_ireti) 1 := so_ireti E.2.2.1 E.2.2.2 dX6_run_18
theorem oo_X6_run_19 {Γ : jΓ} {Q : jPost} (E : E_X6_run Γ Q) : jSA Γ Q 19 (o_iload 1) 1 := so_iload_n E.2.2.1 rfl dX6_run_19
theorem oo_X6_run_20 {Γ : jΓ} {Q : jPost} (E : E_X6_run Γ Q) : jSA Γ Q 20 (o_ifle 27) 3 := so_ifle E.2.2.1 (by decide) dX6_run_20
theorem oo_X6_run_23 {Γ : jΓ} {Q : jPost} (E : E_X6_run Γ Q) : jSA Γ Q 23 (o_iload 1) 1 := so_iload_n E.2.2.1 rfl dX6_run_23
theorem oo_X6_run_24 {Γ : jΓ} {Q : jPost} (E : E_X6_run Γ Q) : jSA Γ Q 24 (o_goto 29) 3 := so_goto E.2.2.1 (by decide) dX6_run_24
theorem oo_X6_run_27 {Γ : jΓ} {Q : jPost} (E : E_X6_run Γ Q) : jSA Γ Q 27 (o_iload 1) 1 := so_iload_n E.2.2.1 rfl dX6_run_27
theorem oo_X6_run_28 {Γ : jΓ} {Q : jPost} (E : E_X6_run Γ Q) : jSA Γ Q 28 (o_ineg) 1 := so_ineg E.2.2.1 dX6_run_28
theorem oo_X6_run_29 {Γ : jΓ} {Q : jPost} (E : E_X6_run Γ Q) : jSA Γ Q 29 (o_istore 2) 1 := so_istore_n E.2.2.1 rfl (by rw [E.1]; decide) dX6_run_29
theorem oo_X6_run_30 {Γ : jΓ} {Q : jPost} (E : E_X6_run Γ Q) : jSA Γ Q 30 (o_ic (0)) 1 := so_iconst E.2.2.1 rfl dX6_run_30
theorem oo_X6_run_31 {Γ : jΓ} {Q : jPost} (E : E_X6_run Γ Q) : jSA Γ Q 31 (o_istore 3) 1 := so_istore_n E.2.2.1 rfl (by rw [E.1]; decide) dX6_run_31
theorem oo_X6_run_32 {Γ : jΓ} {Q : jPost} (E : E_X6_run Γ Q) : jSA Γ Q 32 (o_iload 3) 1 := so_iload_n E.2.2.1 rfl dX6_run_32
theorem oo_X6_run_33 {Γ : jΓ} {Q : jPost} (E : E_X6_run Γ Q) : jSA Γ Q 33 (o_iload 2) 1 := so_iload_n E.2.2.1 rfl dX6_run_33
theorem oo_X6_run_34 {Γ : jΓ} {Q : jPost} (E : E_X6_run Γ Q) : jSA Γ Q 34 (o_icge 64) 3 := so_icge E.2.2.1 (by decide) dX6_run_34
theorem oo_X6_run_37 {Γ : jΓ} {Q : jPost} (E : E_X6_run Γ Q) : jSA Γ Q 37 (o_iload 1) 1 := so_iload_n E.2.2.1 rfl dX6_run_37
theorem oo_X6_run_38 {Γ : jΓ} {Q : jPost} (E : E_X6_run Γ Q) : jSA Γ Q 38 (o_ifle 51) 3 := so_ifle E.2.2.1 (by decide) dX6_run_38
theorem oo_X6_run_41 {Γ : jΓ} {Q : jPost} (E : E_X6_run Γ Q) : jSA Γ Q 41 (o_aload 0) 1 := so_aload_n E.2.2.1 rfl dX6_run_41
theorem oo_X6_run_42 {Γ : jΓ} {Q : jPost} (E : E_X6_run Γ Q) : jSA Γ Q 42 (o_callV 1 6 T_X6_stepAhead) 3 := so_callV E.2.2.1 (ci := 6) (by rw [E.2.1]; rfl) gX6_run_X6_stepAhead (by decide +kernel) rfl (by rw [E.2.1]; exact m_X6_stepAhead _) (by decide) (by decide) dX6_run_42
theorem oo_X6_run_45 {Γ : jΓ} {Q : jPost} (E : E_X6_run Γ Q) : jSA Γ Q 45 (o_ifeq 64) 3 := so_ifeq E.2.2.1 (by decide) dX6_run_45
theorem oo_X6_run_48 {Γ : jΓ} {Q : jPost} (E : E_X6_run Γ Q) : jSA Γ Q 48 (o_goto 58) 3 := so_goto E.2.2.1 (by decide) dX6_run_48
theorem oo_X6_run_51 {Γ : jΓ} {Q : jPost} (E : E_X6_run Γ Q) : jSA Γ Q 51 (o_aload 0) 1 := so_aload_n E.2.2.1 rfl dX6_run_51
theorem oo_X6_run_52 {Γ : jΓ} {Q : jPost} (E : E_X6_run Γ Q) : jSA Γ Q 52 (o_callV 1 6 T_X6_stepBack) 3 := so_callV E.2.2.1 (ci := 6) (by rw [E.2.1]; rfl) gX6_run_X6_stepBack (by decide +kernel) rfl (by rw [E.2.1]; exact m_X6_stepBack _) (by decide) (by decide) dX6_run_52
theorem oo_X6_run_55 {Γ : jΓ} {Q : jPost} (E : E_X6_run Γ Q) : jSA Γ Q 55 (o_ifeq 64) 3 := so_ifeq E.2.2.1 (by decide) dX6_run_55
theorem oo_X6_run_58 {Γ : jΓ} {Q : jPost} (E : E_X6_run Γ Q) : jSA Γ Q 58 (o_iinc 3 (1)) 3 := so_iinc E.2.2.1 rfl (by rw [E.1]; decide) dX6_run_58
theorem oo_X6_run_61 {Γ : jΓ} {Q : jPost} (E : E_X6_run Γ Q) : jSA Γ Q 61 (o_goto 32) 3 := so_goto E.2.2.1 (by decide) dX6_run_61
theorem oo_X6_run_64 {Γ : jΓ} {Q : jPost} (E : E_X6_run Γ Q) : jSA Γ Q 64 (o_iload 3) 1 := so_iload_n E.2.2.1 rfl dX6_run_64
theorem oo_X6_run_65 {Γ : jΓ} {Q : jPost} (E : E_X6_run Γ Q) : jSA Γ Q 65 (o_ifne 73) 3 := so_ifne E.2.2.1 (by decide) dX6_run_65
theorem oo_X6_run_68 {Γ : jΓ} {Q : jPost} (E : E_X6_run Γ Q) : jSA Γ Q 68 (o_ic (-4)) 2 := so_bipush E.2.2.1 rfl dX6_run_68
theorem oo_X6_run_70 {Γ : jΓ} {Q : jPost} (E : E_X6_run Γ Q) : jSA Γ Q 70 (o_goto 74) 3 := so_goto E.2.2.1 (by decide) dX6_run_70
theorem oo_X6_run_73 {Γ : jΓ} {Q : jPost} (E : E_X6_run Γ Q) : jSA Γ Q 73 (o_iload 3) 1 := so_iload_n E.2.2.1 rfl dX6_run_73
theorem oo_X6_run_74 {Γ : jΓ} {Q : jPost} (E : E_X6_run Γ Q) : jSA Γ Q 74 (o_ireti) 1 := so_ireti E.2.2.1 E.2.2.2 dX6_run_74
theorem ok_X6_run_0 {Γ : jΓ} {Q : jPost} (E : E_X6_run Γ Q) : jSS Γ Q 0 sg_X6_run_0 := ⟨oo_X6_run_0 E, oo_X6_run_1 E, oo_X6_run_4 E, oo_X6_run_5 E, oo_X6_run_8 E, oo_X6_run_11 E, oo_X6_run_14 E, oo_X6_run_17 E, oo_X6_run_18 E, trivial⟩
theorem ok_X6_run_17 {Γ : jΓ} {Q : jPost} (E : E_X6_run Γ Q) : jSS Γ Q 17 sg_X6_run_17 := ⟨oo_X6_run_17 E, oo_X6_run_18 E, trivial⟩
theorem ok_X6_run_19 {Γ : jΓ} {Q : jPost} (E : E_X6_run Γ Q) : jSS Γ Q 19 sg_X6_run_19 := ⟨oo_X6_run_19 E, oo_X6_run_20 E, oo_X6_run_23 E, oo_X6_run_24 E, trivial⟩
theorem ok_X6_run_27 {Γ : jΓ} {Q : jPost} (E : E_X6_run Γ Q) : jSS Γ Q 27 sg_X6_run_27 := ⟨oo_X6_run_27 E, oo_X6_run_28 E, oo_X6_run_29 E, oo_X6_run_30 E, oo_X6_run_31 E, trivial⟩
theorem ok_X6_run_29 {Γ : jΓ} {Q : jPost} (E : E_X6_run Γ Q) : jSS Γ Q 29 sg_X6_run_29 := ⟨oo_X6_run_29 E, oo_X6_run_30 E, oo_X6_run_31 E, trivial⟩
theorem ok_X6_run_32 {Γ : jΓ} {Q : jPost} (E : E_X6_run Γ Q) : jSS Γ Q 32 sg_X6_run_32 := ⟨oo_X6_run_32 E, oo_X6_run_33 E, oo_X6_run_34 E, oo_X6_run_37 E, oo_X6_run_38 E, oo_X6_run_41 E, oo_X6_run_42 E, oo_X6_run_45 E, oo_X6_run_48 E, trivial⟩
theorem ok_X6_run_51 {Γ : jΓ} {Q : jPost} (E : E_X6_run Γ Q) : jSS Γ Q 51 sg_X6_run_51 := ⟨oo_X6_run_51 E, oo_X6_run_52 E, oo_X6_run_55 E, oo_X6_run_58 E, oo_X6_run_61 E, trivial⟩
theorem ok_X6_run_58 {Γ : jΓ} {Q : jPost} (E : E_X6_run Γ Q) : jSS Γ Q 58 sg_X6_run_58 := ⟨oo_X6_run_58 E, oo_X6_run_61 E, trivial⟩
theorem ok_X6_run_64 {Γ : jΓ} {Q : jPost} (E : E_X6_run Γ Q) : jSS Γ Q 64 sg_X6_run_64 := ⟨oo_X6_run_64 E, oo_X6_run_65 E, oo_X6_run_68 E, oo_X6_run_70 E, trivial⟩
theorem ok_X6_run_73 {Γ : jΓ} {Q : jPost} (E : E_X6_run Γ Q) : jSS Γ Q 73 sg_X6_run_73 := ⟨oo_X6_run_73 E, oo_X6_run_74 E, trivial⟩
theorem ok_X6_run_74 {Γ : jΓ} {Q : jPost} (E : E_X6_run Γ Q) : jSS Γ Q 74 sg_X6_run_74 := ⟨oo_X6_run_74 E, trivial⟩
theorem okc_X6_run {Γ : jΓ} {Q : jPost} (E : E_X6_run Γ Q) (t : Nat) : jSS Γ Q t (cd_X6_run t) := by
  unfold cd_X6_run
  split
  · exact ok_X6_run_17 E
  · exact ok_X6_run_19 E
  · exact ok_X6_run_27 E
  · exact ok_X6_run_29 E
  · exact ok_X6_run_51 E
  · exact ok_X6_run_58 E
  · exact ok_X6_run_64 E
  · exact ok_X6_run_73 E
  · exact ok_X6_run_74 E
  · trivial
theorem m_X6_run_of (l : Launch) (hv : ∀ (G : jGt) (Q : jPost) (vs : List Value) (K : List jK) (h : jM), jHd cd_X6_run G Q sg_X6_run_0 0 → jHd cd_X6_run G Q sg_X6_run_32 32 → T_X6_run vs K h Q → (lg_sl vs).length ≤ 4 ∧ G 0 (jinit vs 4) [] K h 0 0) : jHolds vwCl l yX6_run wsX6_run 5 112 0 0 T_X6_run := by
  refine jMet (cc := cX6_run) (maxL := 4) (rt := (some .int)) (by decide +kernel) rfl (fun Γ Q vs K h hl hn hcl C hR hT => hv (jG Γ) Q vs K h ?_ ?_ hT)
  · exact fun n L st K h ce sl => jwp_ok (okc_X6_run ⟨hn, hcl, C, hR⟩) n sg_X6_run_0 0 (ok_X6_run_0 ⟨hn, hcl, C, hR⟩) L st K h ce sl
  · exact fun n L st K h ce sl => jwp_ok (okc_X6_run ⟨hn, hcl, C, hR⟩) n sg_X6_run_32 32 (ok_X6_run_32 ⟨hn, hcl, C, hR⟩) L st K h ce sl
set_option maxHeartbeats 4000000 in
set_option maxRecDepth 100000 in
theorem v_X6_run {G : jGt} {Q : jPost} {K : List jK} {h : jM} {n : Int32} (hT : jX K ∧ (∃ cnt : Nat, cnt ≤ 6 ∧ h 0 7 = nI cnt ∧ aVal (vQ h) (vS h) cnt ∧ (0 ≤ (h 19 0).toInt ∧ (h 19 0).toInt + 13000 < 2147483648) ∧ (n = 0 ∨ ¬ (-2000 ≤ n ∧ n ≤ 2000) → Q (some (.int (-1))) K h) ∧ (∀ w k g0, ¬ n = 0 → w ≤ 2000 → n = nI w → cIt (cSucc cnt) h k g0 → (k = w → Q (some (.int (nI k))) K g0) ∧ (k < w → ∀ g, cFail cnt g0 g → Q (some (.int (if k = 0 then -4 else nI k))) K g)) ∧ (∀ w k g0, ¬ n = 0 → w ≤ 2000 → n = -nI w → cIt (cSuccB cnt) h k g0 → (k = w → Q (some (.int (nI k))) K g0) ∧ (k < w → ∀ g, cFailB cnt g0 g → Q (some (.int (if k = 0 then -4 else nI k))) K g)))) (H0 : jHd cd_X6_run G Q sg_X6_run_0 0) (H32 : jHd cd_X6_run G Q sg_X6_run_32 32) : G 0 [some (.ref 0), some (.int n), none, none] [] K h 0 0 := by
  obtain ⟨hX, cnt, hc6, hcnt, hv, ⟨hm0, hm1⟩, hT0, hT1, hT2⟩ := hT
  refine H0 60 _ _ _ _ _ _ ?_
  by_cases c1 : n = 0
  · subst c1
    simp only [sg_X6_run_0, sg_X6_run_17, sg_X6_run_19, sg_X6_run_27, sg_X6_run_29, sg_X6_run_32, sg_X6_run_51, sg_X6_run_58, sg_X6_run_64, sg_X6_run_73, sg_X6_run_74, cd_X6_run, jwp, o_ic, o_lc, o_iload, o_lload, o_aload, o_istore, o_lstore, o_astore, o_iinc, o_pop, o_dup, o_dup2, o_iadd, o_isub, o_imul, o_iand, o_ior, o_ishl, o_ladd, o_lmul, o_land, o_lor, o_idiv, o_irem, o_ineg, o_i2l, o_l2i, o_i2b, o_i2s, o_lushr, o_lshr, o_lshl, o_lcmp, o_ifeq, o_ifne, o_iflt, o_ifge, o_ifgt, o_ifle, o_iceq, o_icne, o_iclt, o_icge, o_icgt, o_icle, o_goto, o_tsw, jsw, o_lsw, jlk, o_getf, o_putf, o_putz, o_iald, o_zald, o_iast, o_zast, o_aald, o_alen, o_gets, o_zld, o_zlen, o_cpy, o_call, o_callV, o_ireti, o_iretz, o_lret, o_vret, jg, js, jkp, jkill, jsp, jcs, jfw, jov, Value.category, Option.toList_some, Option.toList_none, List.nil_append, List.cons_append, List.append_nil, Nat.reduceAdd, true_and, and_true, jb0, jb01, jb1, jem, true_or, or_true, Classical.not_not, forall_const, List.length_cons, List.length_nil, Nat.reduceLeDiff, Nat.zero_le, Nat.reduceLT, and_self, not_true_eq_false, not_false_eq_true, false_imp_iff, true_imp_iff, implies_true, and_false, false_and, or_false, false_or, hX, kx_0_0 hX, kx_0_1 hX, kx_0_2 hX, kx_0_3 hX, kx_0_4 hX, kx_0_5 hX, kx_0_6 hX, kx_0_7 hX, kx_0_8 hX, kxo_0 hX, kx_1_0 hX, kx_1_1 hX, kx_1_2 hX, kx_1_3 hX, kxo_1 hX, kx_4_0 hX, kx_4_1 hX, kx_4_2 hX, kxo_4 hX, kx_19_0 hX, kx_19_1 hX, kx_19_2 hX, kx_19_3 hX, kx_19_4 hX, kxo_19 hX, kx_24_0 hX, kx_24_1 hX, kx_24_2 hX, kx_24_3 hX, kx_24_4 hX, kx_24_5 hX, kx_24_6 hX, kxo_24 hX, kxa_2 hX, kxa_3 hX, kxa_6 hX, kxa_7 hX, kxa_8 hX, kxa_9 hX, kxa_10 hX, kxa_18 hX, kxa_20 hX, kxa_21 hX, kxa_22 hX, kxa_23 hX, kxa_26 hX, kxa_27 hX, kxr_5 hX, kxr_11 hX, kxr_28 hX, T_X6_isWithin]
    exact hT0 (Or.inl rfl)
  · by_cases c2 : -2000 ≤ n ∧ n ≤ 2000
    · have d1 : (-2000 : Int) ≤ n.toInt := le_of_lit c2.1
      have d2 : n.toInt ≤ (2000 : Int) := le_of_lit c2.2
      have d0 : ¬ n.toInt = 0 := fun z => c1 (Int32.toInt_inj.mp z)
      by_cases c3 : n ≤ 0
      · have d3 : n.toInt ≤ (0 : Int) := le_of_lit c3
        have em : (-n).toInt = -n.toInt := ti_neg (by omega)
        obtain ⟨w, hw, ew⟩ := jnat (x := -n) (N := 2000) (by omega) (by omega)
        have en : n = -nI w := by
          rw [← ew]
          apply Int32.toInt_inj.mp
          rw [ti_neg (by omega), em]; omega
        have hw0 : 0 < w := by
          have := congrArg Int32.toInt ew
          rw [em, nI_toInt (by omega)] at this
          omega
        have loop : ∀ m k, k + m = w → ∀ g0, cIt (cSuccB cnt) h k g0 → G 32 [some (.ref 0), some (.int n), some (.int (nI w)), some (.int (nI k))] [] K g0 0 0 := by
          intro m
          induction m with
          | zero =>
            intro k hk g0 hg0
            have ek : k = w := by omega
            have hq := (hT2 w k g0 c1 hw en hg0).1 ek
            subst ek
            have hk0 : ¬ nI k = 0 := by rw [show (0 : Int32) = nI 0 from rfl, nI_eq (by omega) (by decide)]; omega
            refine H32 60 _ _ _ _ _ _ ?_
            simp only [sg_X6_run_0, sg_X6_run_17, sg_X6_run_19, sg_X6_run_27, sg_X6_run_29, sg_X6_run_32, sg_X6_run_51, sg_X6_run_58, sg_X6_run_64, sg_X6_run_73, sg_X6_run_74, cd_X6_run, jwp, o_ic, o_lc, o_iload, o_lload, o_aload, o_istore, o_lstore, o_astore, o_iinc, o_pop, o_dup, o_dup2, o_iadd, o_isub, o_imul, o_iand, o_ior, o_ishl, o_ladd, o_lmul, o_land, o_lor, o_idiv, o_irem, o_ineg, o_i2l, o_l2i, o_i2b, o_i2s, o_lushr, o_lshr, o_lshl, o_lcmp, o_ifeq, o_ifne, o_iflt, o_ifge, o_ifgt, o_ifle, o_iceq, o_icne, o_iclt, o_icge, o_icgt, o_icle, o_goto, o_tsw, jsw, o_lsw, jlk, o_getf, o_putf, o_putz, o_iald, o_zald, o_iast, o_zast, o_aald, o_alen, o_gets, o_zld, o_zlen, o_cpy, o_call, o_callV, o_ireti, o_iretz, o_lret, o_vret, jg, js, jkp, jkill, jsp, jcs, jfw, jov, Value.category, Option.toList_some, Option.toList_none, List.nil_append, List.cons_append, List.append_nil, Nat.reduceAdd, true_and, and_true, jb0, jb01, jb1, jem, true_or, or_true, Classical.not_not, forall_const, List.length_cons, List.length_nil, Nat.reduceLeDiff, Nat.zero_le, Nat.reduceLT, and_self, not_true_eq_false, not_false_eq_true, false_imp_iff, true_imp_iff, implies_true, and_false, false_and, or_false, false_or, hX, kx_0_0 hX, kx_0_1 hX, kx_0_2 hX, kx_0_3 hX, kx_0_4 hX, kx_0_5 hX, kx_0_6 hX, kx_0_7 hX, kx_0_8 hX, kxo_0 hX, kx_1_0 hX, kx_1_1 hX, kx_1_2 hX, kx_1_3 hX, kxo_1 hX, kx_4_0 hX, kx_4_1 hX, kx_4_2 hX, kxo_4 hX, kx_19_0 hX, kx_19_1 hX, kx_19_2 hX, kx_19_3 hX, kx_19_4 hX, kxo_19 hX, kx_24_0 hX, kx_24_1 hX, kx_24_2 hX, kx_24_3 hX, kx_24_4 hX, kx_24_5 hX, kx_24_6 hX, kxo_24 hX, kxa_2 hX, kxa_3 hX, kxa_6 hX, kxa_7 hX, kxa_8 hX, kxa_9 hX, kxa_10 hX, kxa_18 hX, kxa_20 hX, kxa_21 hX, kxa_22 hX, kxa_23 hX, kxa_26 hX, kxa_27 hX, kxr_5 hX, kxr_11 hX, kxr_28 hX, hk0]
            exact ⟨fun _ => hq, fun z => absurd (Int32.le_refl _) z⟩
          | succ m ih =>
            intro k hk g0 hg0
            have hq := (hT2 w k g0 c1 hw en hg0).2 (by omega)
            obtain ⟨a1, a2⟩ := itB_inv hcnt hv k g0 hg0
            have hle : ¬ nI w ≤ nI k := fun z => absurd ((nI_leI (by omega) (by omega)).mp z) (by omega)
            refine H32 60 _ _ _ _ _ _ ?_
            simp only [sg_X6_run_0, sg_X6_run_17, sg_X6_run_19, sg_X6_run_27, sg_X6_run_29, sg_X6_run_32, sg_X6_run_51, sg_X6_run_58, sg_X6_run_64, sg_X6_run_73, sg_X6_run_74, cd_X6_run, jwp, o_ic, o_lc, o_iload, o_lload, o_aload, o_istore, o_lstore, o_astore, o_iinc, o_pop, o_dup, o_dup2, o_iadd, o_isub, o_imul, o_iand, o_ior, o_ishl, o_ladd, o_lmul, o_land, o_lor, o_idiv, o_irem, o_ineg, o_i2l, o_l2i, o_i2b, o_i2s, o_lushr, o_lshr, o_lshl, o_lcmp, o_ifeq, o_ifne, o_iflt, o_ifge, o_ifgt, o_ifle, o_iceq, o_icne, o_iclt, o_icge, o_icgt, o_icle, o_goto, o_tsw, jsw, o_lsw, jlk, o_getf, o_putf, o_putz, o_iald, o_zald, o_iast, o_zast, o_aald, o_alen, o_gets, o_zld, o_zlen, o_cpy, o_call, o_callV, o_ireti, o_iretz, o_lret, o_vret, jg, js, jkp, jkill, jsp, jcs, jfw, jov, Value.category, Option.toList_some, Option.toList_none, List.nil_append, List.cons_append, List.append_nil, Nat.reduceAdd, true_and, and_true, jb0, jb01, jb1, jem, true_or, or_true, Classical.not_not, forall_const, List.length_cons, List.length_nil, Nat.reduceLeDiff, Nat.zero_le, Nat.reduceLT, and_self, not_true_eq_false, not_false_eq_true, false_imp_iff, true_imp_iff, implies_true, and_false, false_and, or_false, false_or, hX, kx_0_0 hX, kx_0_1 hX, kx_0_2 hX, kx_0_3 hX, kx_0_4 hX, kx_0_5 hX, kx_0_6 hX, kx_0_7 hX, kx_0_8 hX, kxo_0 hX, kx_1_0 hX, kx_1_1 hX, kx_1_2 hX, kx_1_3 hX, kxo_1 hX, kx_4_0 hX, kx_4_1 hX, kx_4_2 hX, kxo_4 hX, kx_19_0 hX, kx_19_1 hX, kx_19_2 hX, kx_19_3 hX, kx_19_4 hX, kxo_19 hX, kx_24_0 hX, kx_24_1 hX, kx_24_2 hX, kx_24_3 hX, kx_24_4 hX, kx_24_5 hX, kx_24_6 hX, kxo_24 hX, kxa_2 hX, kxa_3 hX, kxa_6 hX, kxa_7 hX, kxa_8 hX, kxa_9 hX, kxa_10 hX, kxa_18 hX, kxa_20 hX, kxa_21 hX, kxa_22 hX, kxa_23 hX, kxa_26 hX, kxa_27 hX, kxr_5 hX, kxr_11 hX, kxr_28 hX, hle, c3, T_X6_stepBack]
            refine ⟨cnt, hc6, a1, a2, fun hall g z1 z2 z3 z4 => ?_, fun hall g z1 z2 z3 z4 => ?_⟩
            · refine ⟨fun z => absurd z (by decide), fun _ => ?_⟩
              rw [nI_1]
              exact ih (k + 1) (by omega) _ ⟨g0, hg0, hall, g, z1, z2, z3, z4, rfl⟩
            · have hq := hq g ⟨hall, z1, z2, z3, z4⟩
              by_cases ek : k = 0
              · subst ek
                rw [if_pos rfl] at hq
                exact ⟨fun z => absurd rfl z, fun _ => hq⟩
              · have hk0 : ¬ nI k = 0 := by rw [show (0 : Int32) = nI 0 from rfl, nI_eq (by omega) (by decide)]; exact ek
                rw [if_neg ek] at hq
                exact ⟨fun _ => hq, fun z => absurd z hk0⟩
        simp only [sg_X6_run_0, sg_X6_run_17, sg_X6_run_19, sg_X6_run_27, sg_X6_run_29, sg_X6_run_32, sg_X6_run_51, sg_X6_run_58, sg_X6_run_64, sg_X6_run_73, sg_X6_run_74, cd_X6_run, jwp, o_ic, o_lc, o_iload, o_lload, o_aload, o_istore, o_lstore, o_astore, o_iinc, o_pop, o_dup, o_dup2, o_iadd, o_isub, o_imul, o_iand, o_ior, o_ishl, o_ladd, o_lmul, o_land, o_lor, o_idiv, o_irem, o_ineg, o_i2l, o_l2i, o_i2b, o_i2s, o_lushr, o_lshr, o_lshl, o_lcmp, o_ifeq, o_ifne, o_iflt, o_ifge, o_ifgt, o_ifle, o_iceq, o_icne, o_iclt, o_icge, o_icgt, o_icle, o_goto, o_tsw, jsw, o_lsw, jlk, o_getf, o_putf, o_putz, o_iald, o_zald, o_iast, o_zast, o_aald, o_alen, o_gets, o_zld, o_zlen, o_cpy, o_call, o_callV, o_ireti, o_iretz, o_lret, o_vret, jg, js, jkp, jkill, jsp, jcs, jfw, jov, Value.category, Option.toList_some, Option.toList_none, List.nil_append, List.cons_append, List.append_nil, Nat.reduceAdd, true_and, and_true, jb0, jb01, jb1, jem, true_or, or_true, Classical.not_not, forall_const, List.length_cons, List.length_nil, Nat.reduceLeDiff, Nat.zero_le, Nat.reduceLT, and_self, not_true_eq_false, not_false_eq_true, false_imp_iff, true_imp_iff, implies_true, and_false, false_and, or_false, false_or, hX, kx_0_0 hX, kx_0_1 hX, kx_0_2 hX, kx_0_3 hX, kx_0_4 hX, kx_0_5 hX, kx_0_6 hX, kx_0_7 hX, kx_0_8 hX, kxo_0 hX, kx_1_0 hX, kx_1_1 hX, kx_1_2 hX, kx_1_3 hX, kxo_1 hX, kx_4_0 hX, kx_4_1 hX, kx_4_2 hX, kxo_4 hX, kx_19_0 hX, kx_19_1 hX, kx_19_2 hX, kx_19_3 hX, kx_19_4 hX, kxo_19 hX, kx_24_0 hX, kx_24_1 hX, kx_24_2 hX, kx_24_3 hX, kx_24_4 hX, kx_24_5 hX, kx_24_6 hX, kxo_24 hX, kxa_2 hX, kxa_3 hX, kxa_6 hX, kxa_7 hX, kxa_8 hX, kxa_9 hX, kxa_10 hX, kxa_18 hX, kxa_20 hX, kxa_21 hX, kxa_22 hX, kxa_23 hX, kxa_26 hX, kxa_27 hX, kxr_5 hX, kxr_11 hX, kxr_28 hX, T_X6_isWithin, c1, c2, c3]
        rw [ew]
        exact loop w 0 (by omega) h rfl
      · have d3 : ¬ n.toInt ≤ (0 : Int) := fun z => c3 (by rw [Int32.le_iff_toInt_le]; exact z)
        obtain ⟨w, hw, ew⟩ := jnat (x := n) (N := 2000) (by omega) (by omega)
        have hw0 : 0 < w := by
          have := congrArg Int32.toInt ew
          rw [nI_toInt (by omega)] at this
          omega
        have loop : ∀ m k, k + m = w → ∀ g0, cIt (cSucc cnt) h k g0 → G 32 [some (.ref 0), some (.int n), some (.int (nI w)), some (.int (nI k))] [] K g0 0 0 := by
          intro m
          induction m with
          | zero =>
            intro k hk g0 hg0
            have ek : k = w := by omega
            have hq := (hT1 w k g0 c1 hw ew hg0).1 ek
            subst ek
            have hk0 : ¬ nI k = 0 := by rw [show (0 : Int32) = nI 0 from rfl, nI_eq (by omega) (by decide)]; omega
            refine H32 60 _ _ _ _ _ _ ?_
            simp only [sg_X6_run_0, sg_X6_run_17, sg_X6_run_19, sg_X6_run_27, sg_X6_run_29, sg_X6_run_32, sg_X6_run_51, sg_X6_run_58, sg_X6_run_64, sg_X6_run_73, sg_X6_run_74, cd_X6_run, jwp, o_ic, o_lc, o_iload, o_lload, o_aload, o_istore, o_lstore, o_astore, o_iinc, o_pop, o_dup, o_dup2, o_iadd, o_isub, o_imul, o_iand, o_ior, o_ishl, o_ladd, o_lmul, o_land, o_lor, o_idiv, o_irem, o_ineg, o_i2l, o_l2i, o_i2b, o_i2s, o_lushr, o_lshr, o_lshl, o_lcmp, o_ifeq, o_ifne, o_iflt, o_ifge, o_ifgt, o_ifle, o_iceq, o_icne, o_iclt, o_icge, o_icgt, o_icle, o_goto, o_tsw, jsw, o_lsw, jlk, o_getf, o_putf, o_putz, o_iald, o_zald, o_iast, o_zast, o_aald, o_alen, o_gets, o_zld, o_zlen, o_cpy, o_call, o_callV, o_ireti, o_iretz, o_lret, o_vret, jg, js, jkp, jkill, jsp, jcs, jfw, jov, Value.category, Option.toList_some, Option.toList_none, List.nil_append, List.cons_append, List.append_nil, Nat.reduceAdd, true_and, and_true, jb0, jb01, jb1, jem, true_or, or_true, Classical.not_not, forall_const, List.length_cons, List.length_nil, Nat.reduceLeDiff, Nat.zero_le, Nat.reduceLT, and_self, not_true_eq_false, not_false_eq_true, false_imp_iff, true_imp_iff, implies_true, and_false, false_and, or_false, false_or, hX, kx_0_0 hX, kx_0_1 hX, kx_0_2 hX, kx_0_3 hX, kx_0_4 hX, kx_0_5 hX, kx_0_6 hX, kx_0_7 hX, kx_0_8 hX, kxo_0 hX, kx_1_0 hX, kx_1_1 hX, kx_1_2 hX, kx_1_3 hX, kxo_1 hX, kx_4_0 hX, kx_4_1 hX, kx_4_2 hX, kxo_4 hX, kx_19_0 hX, kx_19_1 hX, kx_19_2 hX, kx_19_3 hX, kx_19_4 hX, kxo_19 hX, kx_24_0 hX, kx_24_1 hX, kx_24_2 hX, kx_24_3 hX, kx_24_4 hX, kx_24_5 hX, kx_24_6 hX, kxo_24 hX, kxa_2 hX, kxa_3 hX, kxa_6 hX, kxa_7 hX, kxa_8 hX, kxa_9 hX, kxa_10 hX, kxa_18 hX, kxa_20 hX, kxa_21 hX, kxa_22 hX, kxa_23 hX, kxa_26 hX, kxa_27 hX, kxr_5 hX, kxr_11 hX, kxr_28 hX, hk0]
            exact ⟨fun _ => hq, fun z => absurd (Int32.le_refl _) z⟩
          | succ m ih =>
            intro k hk g0 hg0
            have hq := (hT1 w k g0 c1 hw ew hg0).2 (by omega)
            obtain ⟨a1, a2, a3, a4⟩ := it_inv hc6 hcnt hv hm0 k (by omega) g0 hg0
            have hle : ¬ nI w ≤ nI k := fun z => absurd ((nI_leI (by omega) (by omega)).mp z) (by omega)
            refine H32 60 _ _ _ _ _ _ ?_
            simp only [sg_X6_run_0, sg_X6_run_17, sg_X6_run_19, sg_X6_run_27, sg_X6_run_29, sg_X6_run_32, sg_X6_run_51, sg_X6_run_58, sg_X6_run_64, sg_X6_run_73, sg_X6_run_74, cd_X6_run, jwp, o_ic, o_lc, o_iload, o_lload, o_aload, o_istore, o_lstore, o_astore, o_iinc, o_pop, o_dup, o_dup2, o_iadd, o_isub, o_imul, o_iand, o_ior, o_ishl, o_ladd, o_lmul, o_land, o_lor, o_idiv, o_irem, o_ineg, o_i2l, o_l2i, o_i2b, o_i2s, o_lushr, o_lshr, o_lshl, o_lcmp, o_ifeq, o_ifne, o_iflt, o_ifge, o_ifgt, o_ifle, o_iceq, o_icne, o_iclt, o_icge, o_icgt, o_icle, o_goto, o_tsw, jsw, o_lsw, jlk, o_getf, o_putf, o_putz, o_iald, o_zald, o_iast, o_zast, o_aald, o_alen, o_gets, o_zld, o_zlen, o_cpy, o_call, o_callV, o_ireti, o_iretz, o_lret, o_vret, jg, js, jkp, jkill, jsp, jcs, jfw, jov, Value.category, Option.toList_some, Option.toList_none, List.nil_append, List.cons_append, List.append_nil, Nat.reduceAdd, true_and, and_true, jb0, jb01, jb1, jem, true_or, or_true, Classical.not_not, forall_const, List.length_cons, List.length_nil, Nat.reduceLeDiff, Nat.zero_le, Nat.reduceLT, and_self, not_true_eq_false, not_false_eq_true, false_imp_iff, true_imp_iff, implies_true, and_false, false_and, or_false, false_or, hX, kx_0_0 hX, kx_0_1 hX, kx_0_2 hX, kx_0_3 hX, kx_0_4 hX, kx_0_5 hX, kx_0_6 hX, kx_0_7 hX, kx_0_8 hX, kxo_0 hX, kx_1_0 hX, kx_1_1 hX, kx_1_2 hX, kx_1_3 hX, kxo_1 hX, kx_4_0 hX, kx_4_1 hX, kx_4_2 hX, kxo_4 hX, kx_19_0 hX, kx_19_1 hX, kx_19_2 hX, kx_19_3 hX, kx_19_4 hX, kxo_19 hX, kx_24_0 hX, kx_24_1 hX, kx_24_2 hX, kx_24_3 hX, kx_24_4 hX, kx_24_5 hX, kx_24_6 hX, kxo_24 hX, kxa_2 hX, kxa_3 hX, kxa_6 hX, kxa_7 hX, kxa_8 hX, kxa_9 hX, kxa_10 hX, kxa_18 hX, kxa_20 hX, kxa_21 hX, kxa_22 hX, kxa_23 hX, kxa_26 hX, kxa_27 hX, kxr_5 hX, kxr_11 hX, kxr_28 hX, hle, c3, T_X6_stepAhead]
            refine ⟨cnt, hc6, a1, ⟨a3, by omega⟩, a2, fun hall g z1 z2 z3 z4 z5 => ?_, fun hall g z1 z2 z3 z4 => ?_⟩
            · refine ⟨fun z => absurd z (by decide), fun _ => ?_⟩
              rw [nI_1]
              exact ih (k + 1) (by omega) _ ⟨g0, hg0, hall, g, z1, z2, z3, z4, z5, rfl⟩
            · have hq := hq g ⟨hall, z1, z2, z3, z4⟩
              by_cases ek : k = 0
              · subst ek
                rw [if_pos rfl] at hq
                exact ⟨fun z => absurd rfl z, fun _ => hq⟩
              · have hk0 : ¬ nI k = 0 := by rw [show (0 : Int32) = nI 0 from rfl, nI_eq (by omega) (by decide)]; exact ek
                rw [if_neg ek] at hq
                exact ⟨fun _ => hq, fun z => absurd z hk0⟩
        simp only [sg_X6_run_0, sg_X6_run_17, sg_X6_run_19, sg_X6_run_27, sg_X6_run_29, sg_X6_run_32, sg_X6_run_51, sg_X6_run_58, sg_X6_run_64, sg_X6_run_73, sg_X6_run_74, cd_X6_run, jwp, o_ic, o_lc, o_iload, o_lload, o_aload, o_istore, o_lstore, o_astore, o_iinc, o_pop, o_dup, o_dup2, o_iadd, o_isub, o_imul, o_iand, o_ior, o_ishl, o_ladd, o_lmul, o_land, o_lor, o_idiv, o_irem, o_ineg, o_i2l, o_l2i, o_i2b, o_i2s, o_lushr, o_lshr, o_lshl, o_lcmp, o_ifeq, o_ifne, o_iflt, o_ifge, o_ifgt, o_ifle, o_iceq, o_icne, o_iclt, o_icge, o_icgt, o_icle, o_goto, o_tsw, jsw, o_lsw, jlk, o_getf, o_putf, o_putz, o_iald, o_zald, o_iast, o_zast, o_aald, o_alen, o_gets, o_zld, o_zlen, o_cpy, o_call, o_callV, o_ireti, o_iretz, o_lret, o_vret, jg, js, jkp, jkill, jsp, jcs, jfw, jov, Value.category, Option.toList_some, Option.toList_none, List.nil_append, List.cons_append, List.append_nil, Nat.reduceAdd, true_and, and_true, jb0, jb01, jb1, jem, true_or, or_true, Classical.not_not, forall_const, List.length_cons, List.length_nil, Nat.reduceLeDiff, Nat.zero_le, Nat.reduceLT, and_self, not_true_eq_false, not_false_eq_true, false_imp_iff, true_imp_iff, implies_true, and_false, false_and, or_false, false_or, hX, kx_0_0 hX, kx_0_1 hX, kx_0_2 hX, kx_0_3 hX, kx_0_4 hX, kx_0_5 hX, kx_0_6 hX, kx_0_7 hX, kx_0_8 hX, kxo_0 hX, kx_1_0 hX, kx_1_1 hX, kx_1_2 hX, kx_1_3 hX, kxo_1 hX, kx_4_0 hX, kx_4_1 hX, kx_4_2 hX, kxo_4 hX, kx_19_0 hX, kx_19_1 hX, kx_19_2 hX, kx_19_3 hX, kx_19_4 hX, kxo_19 hX, kx_24_0 hX, kx_24_1 hX, kx_24_2 hX, kx_24_3 hX, kx_24_4 hX, kx_24_5 hX, kx_24_6 hX, kxo_24 hX, kxa_2 hX, kxa_3 hX, kxa_6 hX, kxa_7 hX, kxa_8 hX, kxa_9 hX, kxa_10 hX, kxa_18 hX, kxa_20 hX, kxa_21 hX, kxa_22 hX, kxa_23 hX, kxa_26 hX, kxa_27 hX, kxr_5 hX, kxr_11 hX, kxr_28 hX, T_X6_isWithin, c1, c2, c3]
        have h9 := loop w 0 (by omega) h rfl
        rw [← ew] at h9
        exact h9
    · have hT0 := hT0 (Or.inr c2)
      simp only [sg_X6_run_0, sg_X6_run_17, sg_X6_run_19, sg_X6_run_27, sg_X6_run_29, sg_X6_run_32, sg_X6_run_51, sg_X6_run_58, sg_X6_run_64, sg_X6_run_73, sg_X6_run_74, cd_X6_run, jwp, o_ic, o_lc, o_iload, o_lload, o_aload, o_istore, o_lstore, o_astore, o_iinc, o_pop, o_dup, o_dup2, o_iadd, o_isub, o_imul, o_iand, o_ior, o_ishl, o_ladd, o_lmul, o_land, o_lor, o_idiv, o_irem, o_ineg, o_i2l, o_l2i, o_i2b, o_i2s, o_lushr, o_lshr, o_lshl, o_lcmp, o_ifeq, o_ifne, o_iflt, o_ifge, o_ifgt, o_ifle, o_iceq, o_icne, o_iclt, o_icge, o_icgt, o_icle, o_goto, o_tsw, jsw, o_lsw, jlk, o_getf, o_putf, o_putz, o_iald, o_zald, o_iast, o_zast, o_aald, o_alen, o_gets, o_zld, o_zlen, o_cpy, o_call, o_callV, o_ireti, o_iretz, o_lret, o_vret, jg, js, jkp, jkill, jsp, jcs, jfw, jov, Value.category, Option.toList_some, Option.toList_none, List.nil_append, List.cons_append, List.append_nil, Nat.reduceAdd, true_and, and_true, jb0, jb01, jb1, jem, true_or, or_true, Classical.not_not, forall_const, List.length_cons, List.length_nil, Nat.reduceLeDiff, Nat.zero_le, Nat.reduceLT, and_self, not_true_eq_false, not_false_eq_true, false_imp_iff, true_imp_iff, implies_true, and_false, false_and, or_false, false_or, hX, kx_0_0 hX, kx_0_1 hX, kx_0_2 hX, kx_0_3 hX, kx_0_4 hX, kx_0_5 hX, kx_0_6 hX, kx_0_7 hX, kx_0_8 hX, kxo_0 hX, kx_1_0 hX, kx_1_1 hX, kx_1_2 hX, kx_1_3 hX, kxo_1 hX, kx_4_0 hX, kx_4_1 hX, kx_4_2 hX, kxo_4 hX, kx_19_0 hX, kx_19_1 hX, kx_19_2 hX, kx_19_3 hX, kx_19_4 hX, kxo_19 hX, kx_24_0 hX, kx_24_1 hX, kx_24_2 hX, kx_24_3 hX, kx_24_4 hX, kx_24_5 hX, kx_24_6 hX, kxo_24 hX, kxa_2 hX, kxa_3 hX, kxa_6 hX, kxa_7 hX, kxa_8 hX, kxa_9 hX, kxa_10 hX, kxa_18 hX, kxa_20 hX, kxa_21 hX, kxa_22 hX, kxa_23 hX, kxa_26 hX, kxa_27 hX, kxr_5 hX, kxr_11 hX, kxr_28 hX, T_X6_isWithin, c1, c2]
      exact hT0
theorem m_X6_run (l : Launch) : jHolds vwCl l yX6_run wsX6_run 5 112 0 0 T_X6_run := by
  refine m_X6_run_of l (fun G Q vs K h H0 H32 hT => ?_)
  unfold T_X6_run at hT
  split at hT
  · obtain ⟨rfl, hT⟩ := hT
    exact ⟨Nat.le_of_ble_eq_true rfl, v_X6_run hT H0 H32⟩
  · exact hT.elim
