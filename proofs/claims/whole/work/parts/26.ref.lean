/-! X7_rule -/
/-! ===== rules of the reference ===== -/
/-- letters 0 .. k - 1 of the tape are turns -/
def mLet (g : jM) (k : Nat) : Prop := ∀ q, q < k → ¬ jtof (g 41 q).toInt (jdM g) < 0
def mSet (g : jM) (b : Nat) : Nat → jM
  | 0 => g
  | k + 1 => up2 (mSet g b k) 40 (b + k) (jtof (g 41 k).toInt (jdM g))
theorem mSet_s (g : jM) (b k : Nat) : mSet g b (k + 1) = up2 (mSet g b k) 40 (b + k) (jtof (g 41 k).toInt (jdM g)) := rfl
theorem mSet_o (g : jM) (b : Nat) : ∀ (k : Nat) {c : Nat}, ¬ c = 40 → mSet g b k c = g c
  | 0, _, _ => rfl
  | k + 1, c, hc => by rw [mSet_s, up2_n hc]; exact mSet_o g b k hc
theorem mSet_d (g : jM) (b k : Nat) : jdM (mSet g b k) = jdM g := by
  unfold jdM
  rw [mSet_o g b k (by decide)]
def T_X7_rule : jT := fun vs K h Q => match vs with
  | [.ref r0, .int r] => r0 = 37 ∧ (jXM K ∧ (∃ N : Nat, N ≤ 12 ∧ h 37 7 = nI N ∧ (¬ (0 ≤ r ∧ r ≤ 3) → Q (some (.int (-1))) K h) ∧ (0 ≤ r ∧ r ≤ 3 → ∀ g, g = up2 h 37 7 0 → (¬ (nI N = h 37 1 ∧ mLet g N) → Q (some (.int (-2))) K g) ∧ (nI N = h 37 1 ∧ mLet g N → Q (some (.int (nI N))) K (up2 (mSet g (12 * r.toNatClampNeg) N) 37 20 1)))))
  | _ => False
def sg_X7_rule_0 : jS := [(o_iload 1, 1), (o_ic (0), 1), (o_ic (3), 1), (o_call 3 T_X7_in, 3), (o_ifne 11, 3), (o_ic (-1), 1), (o_ireti, 1)]
def sg_X7_rule_11 : jS := [(o_aload 0, 1), (o_getf 7 7, 3), (o_istore 2, 1), (o_aload 0, 1), (o_ic (0), 1), (o_putf 7 7, 3), (o_iload 2, 1), (o_aload 0, 1), (o_getf 7 1, 3), (o_icne 33, 3), (o_ic (1), 1), (o_goto 34, 3)]
def sg_X7_rule_33 : jS := [(o_ic (0), 1), (o_istore 3, 1), (o_ic (0), 1), (o_istore 4, 2)]
def sg_X7_rule_34 : jS := [(o_istore 3, 1), (o_ic (0), 1), (o_istore 4, 2)]
def sg_X7_rule_38 : jS := [(o_iload 4, 2), (o_iload 2, 1), (o_icge 74, 3), (o_iload 3, 1), (o_ifeq 66, 3), (o_aload 0, 1), (o_aload 0, 1), (o_getf 7 6, 3), (o_iload 4, 2), (o_iald, 1), (o_callV 2 7 T_X7_turnOf, 3), (o_iflt 66, 3), (o_ic (1), 1), (o_goto 67, 3)]
def sg_X7_rule_66 : jS := [(o_ic (0), 1)]
def sg_X7_rule_67 : jS := [(o_istore 3, 1)]
def sg_X7_rule_68 : jS := [(o_iinc 4 (1), 3), (o_goto 38, 3)]
def sg_X7_rule_74 : jS := [(o_iload 3, 1), (o_ifne 81, 3), (o_ic (-2), 2), (o_ireti, 1)]
def sg_X7_rule_81 : jS := [(o_ic (0), 1), (o_istore 4, 2)]
def sg_X7_rule_84 : jS := [(o_iload 4, 2), (o_iload 2, 1), (o_icge 119, 3), (o_aload 0, 1), (o_getf 7 5, 3), (o_ic (12), 2), (o_iload 1, 1), (o_imul, 1), (o_iload 4, 2), (o_iadd, 1), (o_aload 0, 1), (o_aload 0, 1), (o_getf 7 6, 3), (o_iload 4, 2), (o_iald, 1), (o_callV 2 7 T_X7_turnOf, 3), (o_iast, 1), (o_iinc 4 (1), 3), (o_goto 84, 3)]
def sg_X7_rule_119 : jS := [(o_aload 0, 1), (o_ic (1), 1), (o_putz 7 20, 3), (o_iload 2, 1), (o_ireti, 1)]
def cd_X7_rule : Nat → jS := fun t => match t with
  | 11 => sg_X7_rule_11
  | 33 => sg_X7_rule_33
  | 34 => sg_X7_rule_34
  | 66 => sg_X7_rule_66
  | 74 => sg_X7_rule_74
  | 81 => sg_X7_rule_81
  | 119 => sg_X7_rule_119
  | _ => []
theorem wl_X7_rule_21 : Cond.fieldLink RX7 21 (TX7 5).1 (TX7 5).2.1 (TX7 5).2.2.1 ∈ wsX7_rule := by decide +kernel
theorem wl_X7_rule_24 : Cond.fieldLink RX7 24 (TX7 6).1 (TX7 6).2.1 (TX7 6).2.2.1 ∈ wsX7_rule := by decide +kernel
theorem wl_X7_rule_84 : Cond.fieldLink RX7 84 (TX7 1).1 (TX7 1).2.1 (TX7 1).2.2.1 ∈ wsX7_rule := by decide +kernel
theorem wl_X7_rule_101 : Cond.fieldLink RX7 101 (TX7 7).1 (TX7 7).2.1 (TX7 7).2.2.1 ∈ wsX7_rule := by decide +kernel
theorem wl_X7_rule_110 : Cond.fieldLink RX7 110 (TX7 20).1 (TX7 20).2.1 (TX7 20).2.2.1 ∈ wsX7_rule := by decide +kernel
theorem wi_X7_rule_X7 : ∀ w ∈ u_ws RX7 TX7 33, w ∈ wsX7_rule := by decide +kernel
def E_X7_rule (Γ : jΓ) (Q : jPost) : Prop := Γ.2.2.2.2.2.2.2.2.2.2.1 = 5 ∧ Γ.2.2.2.2.2.2.2.2.2.2.2.1 = vwCl ∧ jC Γ cX7_rule RX7 "rule" (some .int) wsX7_rule 2 42 0 0 ∧ jR Γ Q 0 0
theorem oo_X7_rule_0 {Γ : jΓ} {Q : jPost} (E : E_X7_rule Γ Q) : jSA Γ Q 0 (o_iload 1) 1 := so_iload_n E.2.2.1 rfl dX7_rule_0
theorem oo_X7_rule_1 {Γ : jΓ} {Q : jPost} (E : E_X7_rule Γ Q) : jSA Γ Q 1 (o_ic (0)) 1 := so_iconst E.2.2.1 rfl dX7_rule_1
theorem oo_X7_rule_2 {Γ : jΓ} {Q : jPost} (E : E_X7_rule Γ Q) : jSA Γ Q 2 (o_ic (3)) 1 := so_iconst E.2.2.1 rfl dX7_rule_2
theorem oo_X7_rule_3 {Γ : jΓ} {Q : jPost} (E : E_X7_rule Γ Q) : jSA Γ Q 3 (o_call 3 T_X7_in) 3 := so_callS E.2.2.1 gX7_rule_X7_in (by decide +kernel) rfl (by rw [E.2.1]; exact m_X7_in _) (by decide) (by decide) dX7_rule_3
theorem oo_X7_rule_6 {Γ : jΓ} {Q : jPost} (E : E_X7_rule Γ Q) : jSA Γ Q 6 (o_ifne 11) 3 := so_ifne E.2.2.1 (by decide) dX7_rule_6
theorem oo_X7_rule_9 {Γ : jΓ} {Q : jPost} (E : E_X7_rule Γ Q) : jSA Γ Q 9 (o_ic (-1)) 1 := so_iconst E.2.2.1 rfl dX7_rule_9
theorem oo_X7_rule_10 {Γ : jΓ} {Q : jPost} (E : E_X7_rule Γ Q) : jSA Γ Q 10 (o_ireti) 1 := so_ireti E.2.2.1 E.2.2.2 dX7_rule_10
theorem oo_X7_rule_11 {Γ : jΓ} {Q : jPost} (E : E_X7_rule Γ Q) : jSA Γ Q 11 (o_aload 0) 1 := so_aload_n E.2.2.1 rfl dX7_rule_11
theorem oo_X7_rule_12 {Γ : jΓ} {Q : jPost} (E : E_X7_rule Γ Q) : jSA Γ Q 12 (o_getf 7 7) 3 := so_getf (ci := 7) E.2.2.1 wi_X7_rule_X7 (by rw [E.2.1]; rfl) 7 (by decide) wl_X7_rule_101 dX7_rule_12
theorem oo_X7_rule_15 {Γ : jΓ} {Q : jPost} (E : E_X7_rule Γ Q) : jSA Γ Q 15 (o_istore 2) 1 := so_istore_n E.2.2.1 rfl (by rw [E.1]; decide) dX7_rule_15
theorem oo_X7_rule_16 {Γ : jΓ} {Q : jPost} (E : E_X7_rule Γ Q) : jSA Γ Q 16 (o_aload 0) 1 := so_aload_n E.2.2.1 rfl dX7_rule_16
theorem oo_X7_rule_17 {Γ : jΓ} {Q : jPost} (E : E_X7_rule Γ Q) : jSA Γ Q 17 (o_ic (0)) 1 := so_iconst E.2.2.1 rfl dX7_rule_17
theorem oo_X7_rule_18 {Γ : jΓ} {Q : jPost} (E : E_X7_rule Γ Q) : jSA Γ Q 18 (o_putf 7 7) 3 := so_putf (ci := 7) E.2.2.1 tyX7 tyX7_ok nmX7 wi_X7_rule_X7 (by rw [E.2.1]; rfl) 7 (by decide) wl_X7_rule_101 rfl (by decide +kernel) dX7_rule_18
theorem oo_X7_rule_21 {Γ : jΓ} {Q : jPost} (E : E_X7_rule Γ Q) : jSA Γ Q 21 (o_iload 2) 1 := so_iload_n E.2.2.1 rfl dX7_rule_21
theorem oo_X7_rule_22 {Γ : jΓ} {Q : jPost} (E : E_X7_rule Γ Q) : jSA Γ Q 22 (o_aload 0) 1 := so_aload_n E.2.2.1 rfl dX7_rule_22
theorem oo_X7_rule_23 {Γ : jΓ} {Q : jPost} (E : E_X7_rule Γ Q) : jSA Γ Q 23 (o_getf 7 1) 3 := so_getf (ci := 7) E.2.2.1 wi_X7_rule_X7 (by rw [E.2.1]; rfl) 1 (by decide) wl_X7_rule_84 dX7_rule_23
theorem oo_X7_rule_26 {Γ : jΓ} {Q : jPost} (E : E_X7_rule Γ Q) : jSA Γ Q 26 (o_icne 33) 3 := so_icne E.2.2.1 (by decide) dX7_rule_26
theorem oo_X7_rule_29 {Γ : jΓ} {Q : jPost} (E : E_X7_rule Γ Q) : jSA Γ Q 29 (o_ic (1)) 1 := so_iconst E.2.2.1 rfl dX7_rule_29
theorem oo_X7_rule_30 {Γ : jΓ} {Q : jPost} (E : E_X7_rule Γ Q) : jSA Γ Q 30 (o_goto 34) 3 := so_goto E.2.2.1 (by decide) dX7_rule_30
theorem oo_X7_rule_33 {Γ : jΓ} {Q : jPost} (E : E_X7_rule Γ Q) : jSA Γ Q 33 (o_ic (0)) 1 := so_iconst E.2.2.1 rfl dX7_rule_33
theorem oo_X7_rule_34 {Γ : jΓ} {Q : jPost} (E : E_X7_rule Γ Q) : jSA Γ Q 34 (o_istore 3) 1 := so_istore_n E.2.2.1 rfl (by rw [E.1]; decide) dX7_rule_34
theorem oo_X7_rule_35 {Γ : jΓ} {Q : jPost} (E : E_X7_rule Γ Q) : jSA Γ Q 35 (o_ic (0)) 1 := so_iconst E.2.2.1 rfl dX7_rule_35
theorem oo_X7_rule_36 {Γ : jΓ} {Q : jPost} (E : E_X7_rule Γ Q) : jSA Γ Q 36 (o_istore 4) 2 := so_istore E.2.2.1 (by rw [E.1]; decide) dX7_rule_36
theorem oo_X7_rule_38 {Γ : jΓ} {Q : jPost} (E : E_X7_rule Γ Q) : jSA Γ Q 38 (o_iload 4) 2 := so_iload E.2.2.1 dX7_rule_38
theorem oo_X7_rule_40 {Γ : jΓ} {Q : jPost} (E : E_X7_rule Γ Q) : jSA Γ Q 40 (o_iload 2) 1 := so_iload_n E.2.2.1 rfl dX7_rule_40
theorem oo_X7_rule_41 {Γ : jΓ} {Q : jPost} (E : E_X7_rule Γ Q) : jSA Γ Q 41 (o_icge 74) 3 := so_icge E.2.2.1 (by decide) dX7_rule_41
theorem oo_X7_rule_44 {Γ : jΓ} {Q : jPost} (E : E_X7_rule Γ Q) : jSA Γ Q 44 (o_iload 3) 1 := so_iload_n E.2.2.1 rfl dX7_rule_44
theorem oo_X7_rule_45 {Γ : jΓ} {Q : jPost} (E : E_X7_rule Γ Q) : jSA Γ Q 45 (o_ifeq 66) 3 := so_ifeq E.2.2.1 (by decide) dX7_rule_45
theorem oo_X7_rule_48 {Γ : jΓ} {Q : jPost} (E : E_X7_rule Γ Q) : jSA Γ Q 48 (o_aload 0) 1 := so_aload_n E.2.2.1 rfl dX7_rule_48
theorem oo_X7_rule_49 {Γ : jΓ} {Q : jPost} (E : E_X7_rule Γ Q) : jSA Γ Q 49 (o_aload 0) 1 := so_aload_n E.2.2.1 rfl dX7_rule_49
theorem oo_X7_rule_50 {Γ : jΓ} {Q : jPost} (E : E_X7_rule Γ Q) : jSA Γ Q 50 (o_getf 7 6) 3 := so_getf (ci := 7) E.2.2.1 wi_X7_rule_X7 (by rw [E.2.1]; rfl) 6 (by decide) wl_X7_rule_24 dX7_rule_50
theorem oo_X7_rule_53 {Γ : jΓ} {Q : jPost} (E : E_X7_rule Γ Q) : jSA Γ Q 53 (o_iload 4) 2 := so_iload E.2.2.1 dX7_rule_53
theorem oo_X7_rule_55 {Γ : jΓ} {Q : jPost} (E : E_X7_rule Γ Q) : jSA Γ Q 55 (o_iald) 1 := so_iald E.2.2.1 dX7_rule_55
theorem oo_X7_rule_56 {Γ : jΓ} {Q : jPost} (E : E_X7_rule Γ Q) : jSA Γ Q 56 (o_callV 2 7 T_X7_turnOf) 3 := so_callV E.2.2.1 (ci := 7) (by rw [E.2.1]; rfl) gX7_rule_X7_turnOf (by decide +kernel) rfl (by rw [E.2.1]; exact m_X7_turnOf _) (by decide) (by decide) dX7_rule_56
theorem oo_X7_rule_59 {Γ : jΓ} {Q : jPost} (E : E_X7_rule Γ Q) : jSA Γ Q 59 (o_iflt 66) 3 := so_iflt E.2.2.1 (by decide) dX7_rule_59
theorem oo_X7_rule_62 {Γ : jΓ} {Q : jPost} (E : E_X7_rule Γ Q) : jSA Γ Q 62 (o_ic (1)) 1 := so_iconst E.2.2.1 rfl dX7_rule_62
theorem oo_X7_rule_63 {Γ : jΓ} {Q : jPost} (E : E_X7_rule Γ Q) : jSA Γ Q 63 (o_goto 67) 3 := so_goto E.2.2.1 (by decide) dX7_rule_63
theorem oo_X7_rule_66 {Γ : jΓ} {Q : jPost} (E : E_X7_rule Γ Q) : jSA Γ Q 66 (o_ic (0)) 1 := so_iconst E.2.2.1 rfl dX7_rule_66
theorem oo_X7_rule_67 {Γ : jΓ} {Q : jPost} (E : E_X7_rule Γ Q) : jSA Γ Q 67 (o_istore 3) 1 := so_istore_n E.2.2.1 rfl (by rw [E.1]; decide) dX7_rule_67
theorem oo_X7_rule_68 {Γ : jΓ} {Q : jPost} (E : E_X7_rule Γ Q) : jSA Γ Q 68 (o_iinc 4 (1)) 3 := so_iinc E.2.2.1 rfl (by rw [E.1]; decide) dX7_rule_68
theorem oo_X7_rule_71 {Γ : jΓ} {Q : jPost} (E : E_X7_rule Γ Q) : jSA Γ Q 71 (o_goto 38) 3 := so_goto E.2.2.1 (by decide) dX7_rule_71
theorem oo_X7_rule_74 {Γ : jΓ} {Q : jPost} (E : E_X7_rule Γ Q) : jSA Γ Q 74 (o_iload 3) 1 := so_iload_n E.2.2.1 rfl dX7_rule_74
theorem oo_X7_rule_75 {Γ : jΓ} {Q : jPost} (E : E_X7_rule Γ Q) : jSA Γ Q 75 (o_ifne 81) 3 := so_ifne E.2.2.1 (by decide) dX7_rule_75
theorem oo_X7_rule_78 {Γ : jΓ} {Q : jPost} (E : E_X7_rule Γ Q) : jSA Γ Q 78 (o_ic (-2)) 2 := so_bipush E.2.2.1 rfl dX7_rule_78
theorem oo_X7_rule_80 {Γ : jΓ} {Q : jPost} (E : E_X7_rule Γ Q) : jSA Γ Q 80 (o_ireti) 1 := so_ireti E.2.2.1 E.2.2.2 dX7_rule_80
theorem oo_X7_rule_81 {Γ : jΓ} {Q : jPost} (E : E_X7_rule Γ Q) : jSA Γ Q 81 (o_ic (0)) 1 := so_iconst E.2.2.1 rfl dX7_rule_81
theorem oo_X7_rule_82 {Γ : jΓ} {Q : jPost} (E : E_X7_rule Γ Q) : jSA Γ Q 82 (o_istore 4) 2 := so_istore E.2.2.1 (by rw [E.1]; decide) dX7_rule_82
theorem oo_X7_rule_84 {Γ : jΓ} {Q : jPost} (E : E_X7_rule Γ Q) : jSA Γ Q 84 (o_iload 4) 2 := so_iload E.2.2.1 dX7_rule_84
theorem oo_X7_rule_86 {Γ : jΓ} {Q : jPost} (E : E_X7_rule Γ Q) : jSA Γ Q 86 (o_iload 2) 1 := so_iload_n E.2.2.1 rfl dX7_rule_86
theorem oo_X7_rule_87 {Γ : jΓ} {Q : jPost} (E : E_X7_rule Γ Q) : jSA Γ Q 87 (o_icge 119) 3 := so_icge E.2.2.1 (by decide) dX7_rule_87
theorem oo_X7_rule_90 {Γ : jΓ} {Q : jPost} (E : E_X7_rule Γ Q) : jSA Γ Q 90 (o_aload 0) 1 := so_aload_n E.2.2.1 rfl dX7_rule_90
theorem oo_X7_rule_91 {Γ : jΓ} {Q : jPost} (E : E_X7_rule Γ Q) : jSA Γ Q 91 (o_getf 7 5) 3 := so_getf (ci := 7) E.2.2.1 wi_X7_rule_X7 (by rw [E.2.1]; rfl) 5 (by decide) wl_X7_rule_21 dX7_rule_91
theorem oo_X7_rule_94 {Γ : jΓ} {Q : jPost} (E : E_X7_rule Γ Q) : jSA Γ Q 94 (o_ic (12)) 2 := so_bipush E.2.2.1 rfl dX7_rule_94
theorem oo_X7_rule_96 {Γ : jΓ} {Q : jPost} (E : E_X7_rule Γ Q) : jSA Γ Q 96 (o_iload 1) 1 := so_iload_n E.2.2.1 rfl dX7_rule_96
theorem oo_X7_rule_97 {Γ : jΓ} {Q : jPost} (E : E_X7_rule Γ Q) : jSA Γ Q 97 (o_imul) 1 := so_imul E.2.2.1 dX7_rule_97
theorem oo_X7_rule_98 {Γ : jΓ} {Q : jPost} (E : E_X7_rule Γ Q) : jSA Γ Q 98 (o_iload 4) 2 := so_iload E.2.2.1 dX7_rule_98
theorem oo_X7_rule_100 {Γ : jΓ} {Q : jPost} (E : E_X7_rule Γ Q) : jSA Γ Q 100 (o_iadd) 1 := so_iadd E.2.2.1 dX7_rule_100
theorem oo_X7_rule_101 {Γ : jΓ} {Q : jPost} (E : E_X7_rule Γ Q) : jSA Γ Q 101 (o_aload 0) 1 := so_aload_n E.2.2.1 rfl dX7_rule_101
theorem oo_X7_rule_102 {Γ : jΓ} {Q : jPost} (E : E_X7_rule Γ Q) : jSA Γ Q 102 (o_aload 0) 1 := so_aload_n E.2.2.1 rfl dX7_rule_102
theorem oo_X7_rule_103 {Γ : jΓ} {Q : jPost} (E : E_X7_rule Γ Q) : jSA Γ Q 103 (o_getf 7 6) 3 := so_getf (ci := 7) E.2.2.1 wi_X7_rule_X7 (by rw [E.2.1]; rfl) 6 (by decide) wl_X7_rule_24 dX7_rule_103
theorem oo_X7_rule_106 {Γ : jΓ} {Q : jPost} (E : E_X7_rule Γ Q) : jSA Γ Q 106 (o_iload 4) 2 := so_iload E.2.2.1 dX7_rule_106
theorem oo_X7_rule_108 {Γ : jΓ} {Q : jPost} (E : E_X7_rule Γ Q) : jSA Γ Q 108 (o_iald) 1 := so_iald E.2.2.1 dX7_rule_108
theorem oo_X7_rule_109 {Γ : jΓ} {Q : jPost} (E : E_X7_rule Γ Q) : jSA Γ Q 109 (o_callV 2 7 T_X7_turnOf) 3 := so_callV E.2.2.1 (ci := 7) (by rw [E.2.1]; rfl) gX7_rule_X7_turnOf (by decide +kernel) rfl (by rw [E.2.1]; exact m_X7_turnOf _) (by decide) (by decide) dX7_rule_109
theorem oo_X7_rule_112 {Γ : jΓ} {Q : jPost} (E : E_X7_rule Γ Q) : jSA Γ Q 112 (o_iast) 1 := so_iast E.2.2.1 dX7_rule_112
theorem oo_X7_rule_113 {Γ : jΓ} {Q : jPost} (E : E_X7_rule Γ Q) : jSA Γ Q 113 (o_iinc 4 (1)) 3 := so_iinc E.2.2.1 rfl (by rw [E.1]; decide) dX7_rule_113
theorem oo_X7_rule_116 {Γ : jΓ} {Q : jPost} (E : E_X7_rule Γ Q) : jSA Γ Q 116 (o_goto 84) 3 := so_goto E.2.2.1 (by decide) dX7_rule_116
theorem oo_X7_rule_119 {Γ : jΓ} {Q : jPost} (E : E_X7_rule Γ Q) : jSA Γ Q 119 (o_aload 0) 1 := so_aload_n E.2.2.1 rfl dX7_rule_119
theorem oo_X7_rule_120 {Γ : jΓ} {Q : jPost} (E : E_X7_rule Γ Q) : jSA Γ Q 120 (o_ic (1)) 1 := so_iconst E.2.2.1 rfl dX7_rule_120
theorem oo_X7_rule_121 {Γ : jΓ} {Q : jPost} (E : E_X7_rule Γ Q) : jSA Γ Q 121 (o_putz 7 20) 3 := so_putz (ci := 7) E.2.2.1 tyX7 tyX7_ok nmX7 wi_X7_rule_X7 (by rw [E.2.1]; rfl) 20 (by decide) wl_X7_rule_110 rfl (by decide +kernel) dX7_rule_121
theorem oo_X7_rule_124 {Γ : jΓ} {Q : jPost} (E : E_X7_rule Γ Q) : jSA Γ Q 124 (o_iload 2) 1 := so_iload_n E.2.2.1 rfl dX7_rule_124
theorem oo_X7_rule_125 {Γ : jΓ} {Q : jPost} (E : E_X7_rule Γ Q) : jSA Γ Q 125 (o_ireti) 1 := so_ireti E.2.2.1 E.2.2.2 dX7_rule_125
theorem ok_X7_rule_0 {Γ : jΓ} {Q : jPost} (E : E_X7_rule Γ Q) : jSS Γ Q 0 sg_X7_rule_0 := ⟨oo_X7_rule_0 E, oo_X7_rule_1 E, oo_X7_rule_2 E, oo_X7_rule_3 E, oo_X7_rule_6 E, oo_X7_rule_9 E, oo_X7_rule_10 E, trivial⟩
theorem ok_X7_rule_11 {Γ : jΓ} {Q : jPost} (E : E_X7_rule Γ Q) : jSS Γ Q 11 sg_X7_rule_11 := ⟨oo_X7_rule_11 E, oo_X7_rule_12 E, oo_X7_rule_15 E, oo_X7_rule_16 E, oo_X7_rule_17 E, oo_X7_rule_18 E, oo_X7_rule_21 E, oo_X7_rule_22 E, oo_X7_rule_23 E, oo_X7_rule_26 E, oo_X7_rule_29 E, oo_X7_rule_30 E, trivial⟩
theorem ok_X7_rule_33 {Γ : jΓ} {Q : jPost} (E : E_X7_rule Γ Q) : jSS Γ Q 33 sg_X7_rule_33 := ⟨oo_X7_rule_33 E, oo_X7_rule_34 E, oo_X7_rule_35 E, oo_X7_rule_36 E, trivial⟩
theorem ok_X7_rule_34 {Γ : jΓ} {Q : jPost} (E : E_X7_rule Γ Q) : jSS Γ Q 34 sg_X7_rule_34 := ⟨oo_X7_rule_34 E, oo_X7_rule_35 E, oo_X7_rule_36 E, trivial⟩
theorem ok_X7_rule_38 {Γ : jΓ} {Q : jPost} (E : E_X7_rule Γ Q) : jSS Γ Q 38 sg_X7_rule_38 := ⟨oo_X7_rule_38 E, oo_X7_rule_40 E, oo_X7_rule_41 E, oo_X7_rule_44 E, oo_X7_rule_45 E, oo_X7_rule_48 E, oo_X7_rule_49 E, oo_X7_rule_50 E, oo_X7_rule_53 E, oo_X7_rule_55 E, oo_X7_rule_56 E, oo_X7_rule_59 E, oo_X7_rule_62 E, oo_X7_rule_63 E, trivial⟩
theorem ok_X7_rule_66 {Γ : jΓ} {Q : jPost} (E : E_X7_rule Γ Q) : jSS Γ Q 66 sg_X7_rule_66 := ⟨oo_X7_rule_66 E, trivial⟩
theorem ok_X7_rule_67 {Γ : jΓ} {Q : jPost} (E : E_X7_rule Γ Q) : jSS Γ Q 67 sg_X7_rule_67 := ⟨oo_X7_rule_67 E, trivial⟩
theorem ok_X7_rule_68 {Γ : jΓ} {Q : jPost} (E : E_X7_rule Γ Q) : jSS Γ Q 68 sg_X7_rule_68 := ⟨oo_X7_rule_68 E, oo_X7_rule_71 E, trivial⟩
theorem ok_X7_rule_74 {Γ : jΓ} {Q : jPost} (E : E_X7_rule Γ Q) : jSS Γ Q 74 sg_X7_rule_74 := ⟨oo_X7_rule_74 E, oo_X7_rule_75 E, oo_X7_rule_78 E, oo_X7_rule_80 E, trivial⟩
theorem ok_X7_rule_81 {Γ : jΓ} {Q : jPost} (E : E_X7_rule Γ Q) : jSS Γ Q 81 sg_X7_rule_81 := ⟨oo_X7_rule_81 E, oo_X7_rule_82 E, trivial⟩
theorem ok_X7_rule_84 {Γ : jΓ} {Q : jPost} (E : E_X7_rule Γ Q) : jSS Γ Q 84 sg_X7_rule_84 := ⟨oo_X7_rule_84 E, oo_X7_rule_86 E, oo_X7_rule_87 E, oo_X7_rule_90 E, oo_X7_rule_91 E, oo_X7_rule_94 E, oo_X7_rule_96 E, oo_X7_rule_97 E, oo_X7_rule_98 E, oo_X7_rule_100 E, oo_X7_rule_101 E, oo_X7_rule_102 E, oo_X7_rule_103 E, oo_X7_rule_106 E, oo_X7_rule_108 E, oo_X7_rule_109 E, oo_X7_rule_112 E, oo_X7_rule_113 E, oo_X7_rule_116 E, trivial⟩
theorem ok_X7_rule_119 {Γ : jΓ} {Q : jPost} (E : E_X7_rule Γ Q) : jSS Γ Q 119 sg_X7_rule_119 := ⟨oo_X7_rule_119 E, oo_X7_rule_120 E, oo_X7_rule_121 E, oo_X7_rule_124 E, oo_X7_rule_125 E, trivial⟩
theorem okc_X7_rule {Γ : jΓ} {Q : jPost} (E : E_X7_rule Γ Q) (t : Nat) : jSS Γ Q t (cd_X7_rule t) := by
  unfold cd_X7_rule
  split
  · exact ok_X7_rule_11 E
  · exact ok_X7_rule_33 E
  · exact ok_X7_rule_34 E
  · exact ok_X7_rule_66 E
  · exact ok_X7_rule_74 E
  · exact ok_X7_rule_81 E
  · exact ok_X7_rule_119 E
  · trivial
theorem m_X7_rule_of (l : Launch) (hv : ∀ (G : jGt) (Q : jPost) (vs : List Value) (K : List jK) (h : jM), jHd cd_X7_rule G Q sg_X7_rule_0 0 → jHd cd_X7_rule G Q sg_X7_rule_38 38 → jHd cd_X7_rule G Q sg_X7_rule_67 67 → jHd cd_X7_rule G Q sg_X7_rule_68 68 → jHd cd_X7_rule G Q sg_X7_rule_84 84 → T_X7_rule vs K h Q → (lg_sl vs).length ≤ 5 ∧ G 0 (jinit vs 5) [] K h 0 0) : jHolds vwCl l yX7_rule wsX7_rule 2 42 0 0 T_X7_rule := by
  refine jMet (cc := cX7_rule) (maxL := 5) (rt := (some .int)) (by decide +kernel) rfl (fun Γ Q vs K h hl hn hcl C hR hT => hv (jG Γ) Q vs K h ?_ ?_ ?_ ?_ ?_ hT)
  · exact fun n L st K h ce sl => jwp_ok (okc_X7_rule ⟨hn, hcl, C, hR⟩) n sg_X7_rule_0 0 (ok_X7_rule_0 ⟨hn, hcl, C, hR⟩) L st K h ce sl
  · exact fun n L st K h ce sl => jwp_ok (okc_X7_rule ⟨hn, hcl, C, hR⟩) n sg_X7_rule_38 38 (ok_X7_rule_38 ⟨hn, hcl, C, hR⟩) L st K h ce sl
  · exact fun n L st K h ce sl => jwp_ok (okc_X7_rule ⟨hn, hcl, C, hR⟩) n sg_X7_rule_67 67 (ok_X7_rule_67 ⟨hn, hcl, C, hR⟩) L st K h ce sl
  · exact fun n L st K h ce sl => jwp_ok (okc_X7_rule ⟨hn, hcl, C, hR⟩) n sg_X7_rule_68 68 (ok_X7_rule_68 ⟨hn, hcl, C, hR⟩) L st K h ce sl
  · exact fun n L st K h ce sl => jwp_ok (okc_X7_rule ⟨hn, hcl, C, hR⟩) n sg_X7_rule_84 84 (ok_X7_rule_84 ⟨hn, hcl, C, hR⟩) L st K h ce sl
set_option maxHeartbeats 4000000 in
set_option maxRecDepth 100000 in
theorem v_X7_rule {G : jGt} {Q : jPost} {K : List jK} {h : jM} {r : Int32} (hT : jXM K ∧ (∃ N : Nat, N ≤ 12 ∧ h 37 7 = nI N ∧ (¬ (0 ≤ r ∧ r ≤ 3) → Q (some (.int (-1))) K h) ∧ (0 ≤ r ∧ r ≤ 3 → ∀ g, g = up2 h 37 7 0 → (¬ (nI N = h 37 1 ∧ mLet g N) → Q (some (.int (-2))) K g) ∧ (nI N = h 37 1 ∧ mLet g N → Q (some (.int (nI N))) K (up2 (mSet g (12 * r.toNatClampNeg) N) 37 20 1))))) (H0 : jHd cd_X7_rule G Q sg_X7_rule_0 0) (H38 : jHd cd_X7_rule G Q sg_X7_rule_38 38) (H67 : jHd cd_X7_rule G Q sg_X7_rule_67 67) (H68 : jHd cd_X7_rule G Q sg_X7_rule_68 68) (H84 : jHd cd_X7_rule G Q sg_X7_rule_84 84) : G 0 [some (.ref 37), some (.int r), none, none, none] [] K h 0 0 := by
  obtain ⟨hM, N, hN, e7, hT0, hT1⟩ := hT
  by_cases c1 : 0 ≤ r ∧ r ≤ 3
  · obtain ⟨j, hj, rfl⟩ := sh_of c1
    have h31 : j < 2147483648 := by omega
    obtain ⟨g, hg⟩ : ∃ g, g = up2 h 37 7 0 := ⟨_, rfl⟩
    have hT1 := hT1 c1 g hg
    rw [nI_clamp h31] at hT1
    have h67 : ∀ (b w : Int32) x3, G 68 [some (.ref 37), some (.int (nI j)), some (.int (nI N)), some (.int b), some (.int w)] [] K g 0 0 → G 67 [some (.ref 37), some (.int (nI j)), some (.int (nI N)), x3, some (.int w)] [.int b] K g 0 0 := by
      intro b w x3 hG
      refine H67 60 _ _ _ _ _ _ ?_
      simp only [sg_X7_rule_0, sg_X7_rule_11, sg_X7_rule_33, sg_X7_rule_34, sg_X7_rule_38, sg_X7_rule_66, sg_X7_rule_67, sg_X7_rule_68, sg_X7_rule_74, sg_X7_rule_81, sg_X7_rule_84, sg_X7_rule_119, cd_X7_rule, jwp, o_ic, o_lc, o_iload, o_lload, o_aload, o_istore, o_lstore, o_astore, o_iinc, o_pop, o_dup, o_dup2, o_iadd, o_isub, o_imul, o_iand, o_ior, o_ishl, o_ladd, o_lmul, o_land, o_lor, o_idiv, o_irem, o_ineg, o_i2l, o_l2i, o_i2b, o_i2s, o_lushr, o_lshr, o_lshl, o_lcmp, o_ifeq, o_ifne, o_iflt, o_ifge, o_ifgt, o_ifle, o_iceq, o_icne, o_iclt, o_icge, o_icgt, o_icle, o_goto, o_tsw, jsw, o_lsw, jlk, o_getf, o_putf, o_putz, o_iald, o_zald, o_iast, o_zast, o_aald, o_alen, o_gets, o_zld, o_zlen, o_cpy, o_call, o_callV, o_ireti, o_iretz, o_lret, o_vret, jg, js, jkp, jkill, jsp, jcs, jfw, jov, Value.category, Option.toList_some, Option.toList_none, List.nil_append, List.cons_append, List.append_nil, Nat.reduceAdd, true_and, and_true, jb0, jb01, jb1, jem, true_or, or_true, Classical.not_not, forall_const, List.length_cons, List.length_nil, Nat.reduceLeDiff, Nat.zero_le, Nat.reduceLT, hM, km_37_0 hM, km_37_1 hM, km_37_2 hM, km_37_3 hM, km_37_4 hM, km_37_5 hM, km_37_6 hM, km_37_7 hM, km_37_8 hM, km_37_9 hM, km_37_10 hM, km_37_11 hM, km_37_12 hM, km_37_13 hM, km_37_14 hM, km_37_15 hM, km_37_16 hM, km_37_17 hM, km_37_18 hM, km_37_19 hM, km_37_20 hM, km_37_21 hM, km_37_22 hM, km_37_23 hM, km_37_24 hM, km_37_25 hM, km_37_26 hM, km_37_27 hM, km_37_28 hM, km_37_29 hM, km_37_30 hM, km_37_31 hM, km_37_32 hM, kmo_37 hM, kma_38 hM, kma_39 hM, kma_40 hM, kma_41 hM, kma_42 hM, kma_43 hM, kma_44 hM, kma_45 hM, kma_46 hM, kma_47 hM, kma_48 hM, kma_49 hM, kma_50 hM, kma_52 hM, kma_53 hM, kma_54 hM, kma_55 hM, kma_56 hM, kma_51 hM]
      exact hG
    have h68 : ∀ (b w : Int32), G 38 [some (.ref 37), some (.int (nI j)), some (.int (nI N)), some (.int b), some (.int (w + 1))] [] K g 0 0 → G 68 [some (.ref 37), some (.int (nI j)), some (.int (nI N)), some (.int b), some (.int w)] [] K g 0 0 := by
      intro b w hG
      refine H68 60 _ _ _ _ _ _ ?_
      simp only [sg_X7_rule_0, sg_X7_rule_11, sg_X7_rule_33, sg_X7_rule_34, sg_X7_rule_38, sg_X7_rule_66, sg_X7_rule_67, sg_X7_rule_68, sg_X7_rule_74, sg_X7_rule_81, sg_X7_rule_84, sg_X7_rule_119, cd_X7_rule, jwp, o_ic, o_lc, o_iload, o_lload, o_aload, o_istore, o_lstore, o_astore, o_iinc, o_pop, o_dup, o_dup2, o_iadd, o_isub, o_imul, o_iand, o_ior, o_ishl, o_ladd, o_lmul, o_land, o_lor, o_idiv, o_irem, o_ineg, o_i2l, o_l2i, o_i2b, o_i2s, o_lushr, o_lshr, o_lshl, o_lcmp, o_ifeq, o_ifne, o_iflt, o_ifge, o_ifgt, o_ifle, o_iceq, o_icne, o_iclt, o_icge, o_icgt, o_icle, o_goto, o_tsw, jsw, o_lsw, jlk, o_getf, o_putf, o_putz, o_iald, o_zald, o_iast, o_zast, o_aald, o_alen, o_gets, o_zld, o_zlen, o_cpy, o_call, o_callV, o_ireti, o_iretz, o_lret, o_vret, jg, js, jkp, jkill, jsp, jcs, jfw, jov, Value.category, Option.toList_some, Option.toList_none, List.nil_append, List.cons_append, List.append_nil, Nat.reduceAdd, true_and, and_true, jb0, jb01, jb1, jem, true_or, or_true, Classical.not_not, forall_const, List.length_cons, List.length_nil, Nat.reduceLeDiff, Nat.zero_le, Nat.reduceLT, hM, km_37_0 hM, km_37_1 hM, km_37_2 hM, km_37_3 hM, km_37_4 hM, km_37_5 hM, km_37_6 hM, km_37_7 hM, km_37_8 hM, km_37_9 hM, km_37_10 hM, km_37_11 hM, km_37_12 hM, km_37_13 hM, km_37_14 hM, km_37_15 hM, km_37_16 hM, km_37_17 hM, km_37_18 hM, km_37_19 hM, km_37_20 hM, km_37_21 hM, km_37_22 hM, km_37_23 hM, km_37_24 hM, km_37_25 hM, km_37_26 hM, km_37_27 hM, km_37_28 hM, km_37_29 hM, km_37_30 hM, km_37_31 hM, km_37_32 hM, kmo_37 hM, kma_38 hM, kma_39 hM, kma_40 hM, kma_41 hM, kma_42 hM, kma_43 hM, kma_44 hM, kma_45 hM, kma_46 hM, kma_47 hM, kma_48 hM, kma_49 hM, kma_50 hM, kma_52 hM, kma_53 hM, kma_54 hM, kma_55 hM, kma_56 hM, kma_51 hM]
      exact hG
    have write : nI N = h 37 1 ∧ mLet g N → ∀ m k, k + m = N → G 84 [some (.ref 37), some (.int (nI j)), some (.int (nI N)), some (.int 1), some (.int (nI k))] [] K (mSet g (12 * j) k) 0 0 := by
      intro hfit m
      have hT1 := hT1.2 hfit
      induction m with
      | zero =>
        intro k hk
        have ek : k = N := by omega
        subst ek
        have hle : nI k ≤ nI k := Int32.le_refl _
        refine H84 60 _ _ _ _ _ _ ?_
        simp only [sg_X7_rule_0, sg_X7_rule_11, sg_X7_rule_33, sg_X7_rule_34, sg_X7_rule_38, sg_X7_rule_66, sg_X7_rule_67, sg_X7_rule_68, sg_X7_rule_74, sg_X7_rule_81, sg_X7_rule_84, sg_X7_rule_119, cd_X7_rule, jwp, o_ic, o_lc, o_iload, o_lload, o_aload, o_istore, o_lstore, o_astore, o_iinc, o_pop, o_dup, o_dup2, o_iadd, o_isub, o_imul, o_iand, o_ior, o_ishl, o_ladd, o_lmul, o_land, o_lor, o_idiv, o_irem, o_ineg, o_i2l, o_l2i, o_i2b, o_i2s, o_lushr, o_lshr, o_lshl, o_lcmp, o_ifeq, o_ifne, o_iflt, o_ifge, o_ifgt, o_ifle, o_iceq, o_icne, o_iclt, o_icge, o_icgt, o_icle, o_goto, o_tsw, jsw, o_lsw, jlk, o_getf, o_putf, o_putz, o_iald, o_zald, o_iast, o_zast, o_aald, o_alen, o_gets, o_zld, o_zlen, o_cpy, o_call, o_callV, o_ireti, o_iretz, o_lret, o_vret, jg, js, jkp, jkill, jsp, jcs, jfw, jov, Value.category, Option.toList_some, Option.toList_none, List.nil_append, List.cons_append, List.append_nil, Nat.reduceAdd, true_and, and_true, jb0, jb01, jb1, jem, true_or, or_true, Classical.not_not, forall_const, List.length_cons, List.length_nil, Nat.reduceLeDiff, Nat.zero_le, Nat.reduceLT, and_self, not_true_eq_false, not_false_eq_true, false_imp_iff, true_imp_iff, implies_true, and_false, false_and, or_false, false_or, hM, km_37_0 hM, km_37_1 hM, km_37_2 hM, km_37_3 hM, km_37_4 hM, km_37_5 hM, km_37_6 hM, km_37_7 hM, km_37_8 hM, km_37_9 hM, km_37_10 hM, km_37_11 hM, km_37_12 hM, km_37_13 hM, km_37_14 hM, km_37_15 hM, km_37_16 hM, km_37_17 hM, km_37_18 hM, km_37_19 hM, km_37_20 hM, km_37_21 hM, km_37_22 hM, km_37_23 hM, km_37_24 hM, km_37_25 hM, km_37_26 hM, km_37_27 hM, km_37_28 hM, km_37_29 hM, km_37_30 hM, km_37_31 hM, km_37_32 hM, kmo_37 hM, kma_38 hM, kma_39 hM, kma_40 hM, kma_41 hM, kma_42 hM, kma_43 hM, kma_44 hM, kma_45 hM, kma_46 hM, kma_47 hM, kma_48 hM, kma_49 hM, kma_50 hM, kma_52 hM, kma_53 hM, kma_54 hM, kma_55 hM, kma_56 hM, kma_51 hM, hle]
        exact hT1
      | succ m ih =>
        intro k hk
        have h2 := ih (k + 1) (by omega)
        rw [mSet_s] at h2
        have hlt : ¬ nI N ≤ nI k := fun z => absurd ((nI_leI (by omega) (by omega)).mp z) (by omega)
        have e41 := mSet_o g (12 * j) k (c := 41) (by decide)
        have eD := mSet_d g (12 * j) k
        have e12 : (12 : Int32) * nI j + nI k = nI (12 * j + k) := by
          rw [show (12 : Int32) = nI 12 from rfl, nI_mul, nI_add]
        have hvk : vp_in (nI k) 12 := vp_in_nI (by omega) (by decide)
        have hvi : vp_in (nI (12 * j + k)) 48 := vp_in_nI (by omega) (by decide)
        rw [← eD, ← e41] at h2
        generalize mSet g (12 * j) k = q at h2 ⊢
        refine H84 60 _ _ _ _ _ _ ?_
        simp only [sg_X7_rule_0, sg_X7_rule_11, sg_X7_rule_33, sg_X7_rule_34, sg_X7_rule_38, sg_X7_rule_66, sg_X7_rule_67, sg_X7_rule_68, sg_X7_rule_74, sg_X7_rule_81, sg_X7_rule_84, sg_X7_rule_119, cd_X7_rule, jwp, o_ic, o_lc, o_iload, o_lload, o_aload, o_istore, o_lstore, o_astore, o_iinc, o_pop, o_dup, o_dup2, o_iadd, o_isub, o_imul, o_iand, o_ior, o_ishl, o_ladd, o_lmul, o_land, o_lor, o_idiv, o_irem, o_ineg, o_i2l, o_l2i, o_i2b, o_i2s, o_lushr, o_lshr, o_lshl, o_lcmp, o_ifeq, o_ifne, o_iflt, o_ifge, o_ifgt, o_ifle, o_iceq, o_icne, o_iclt, o_icge, o_icgt, o_icle, o_goto, o_tsw, jsw, o_lsw, jlk, o_getf, o_putf, o_putz, o_iald, o_zald, o_iast, o_zast, o_aald, o_alen, o_gets, o_zld, o_zlen, o_cpy, o_call, o_callV, o_ireti, o_iretz, o_lret, o_vret, jg, js, jkp, jkill, jsp, jcs, jfw, jov, Value.category, Option.toList_some, Option.toList_none, List.nil_append, List.cons_append, List.append_nil, Nat.reduceAdd, true_and, and_true, jb0, jb01, jb1, jem, true_or, or_true, Classical.not_not, forall_const, List.length_cons, List.length_nil, Nat.reduceLeDiff, Nat.zero_le, Nat.reduceLT, and_self, not_true_eq_false, not_false_eq_true, false_imp_iff, true_imp_iff, implies_true, and_false, false_and, or_false, false_or, hM, km_37_0 hM, km_37_1 hM, km_37_2 hM, km_37_3 hM, km_37_4 hM, km_37_5 hM, km_37_6 hM, km_37_7 hM, km_37_8 hM, km_37_9 hM, km_37_10 hM, km_37_11 hM, km_37_12 hM, km_37_13 hM, km_37_14 hM, km_37_15 hM, km_37_16 hM, km_37_17 hM, km_37_18 hM, km_37_19 hM, km_37_20 hM, km_37_21 hM, km_37_22 hM, km_37_23 hM, km_37_24 hM, km_37_25 hM, km_37_26 hM, km_37_27 hM, km_37_28 hM, km_37_29 hM, km_37_30 hM, km_37_31 hM, km_37_32 hM, kmo_37 hM, kma_38 hM, kma_39 hM, kma_40 hM, kma_41 hM, kma_42 hM, kma_43 hM, kma_44 hM, kma_45 hM, kma_46 hM, kma_47 hM, kma_48 hM, kma_49 hM, kma_50 hM, kma_52 hM, kma_53 hM, kma_54 hM, kma_55 hM, kma_56 hM, kma_51 hM, hlt, e12, hvi, hvk, nI_clamp (show k < 2147483648 by omega), nI_clamp (show 12 * j + k < 2147483648 by omega), T_X7_turnOf]
        rw [nI_1]
        exact h2
    have check : ∀ m k, k + m = N → G 38 [some (.ref 37), some (.int (nI j)), some (.int (nI N)), some (.int (jb (nI N = h 37 1 ∧ mLet g k))), some (.int (nI k))] [] K g 0 0 := by
      intro m
      induction m with
      | zero =>
        intro k hk
        have ek : k = N := by omega
        subst ek
        have hle : nI k ≤ nI k := Int32.le_refl _
        have hw := write
        obtain ⟨hT1, -⟩ := hT1
        generalize (nI k = h 37 1 ∧ mLet g k) = P at hT1 hw ⊢
        by_cases hp : P
        · have h9 := hw hp k 0 (by omega)
          rw [jb_pos hp]
          refine H38 60 _ _ _ _ _ _ ?_
          simp only [sg_X7_rule_0, sg_X7_rule_11, sg_X7_rule_33, sg_X7_rule_34, sg_X7_rule_38, sg_X7_rule_66, sg_X7_rule_67, sg_X7_rule_68, sg_X7_rule_74, sg_X7_rule_81, sg_X7_rule_84, sg_X7_rule_119, cd_X7_rule, jwp, o_ic, o_lc, o_iload, o_lload, o_aload, o_istore, o_lstore, o_astore, o_iinc, o_pop, o_dup, o_dup2, o_iadd, o_isub, o_imul, o_iand, o_ior, o_ishl, o_ladd, o_lmul, o_land, o_lor, o_idiv, o_irem, o_ineg, o_i2l, o_l2i, o_i2b, o_i2s, o_lushr, o_lshr, o_lshl, o_lcmp, o_ifeq, o_ifne, o_iflt, o_ifge, o_ifgt, o_ifle, o_iceq, o_icne, o_iclt, o_icge, o_icgt, o_icle, o_goto, o_tsw, jsw, o_lsw, jlk, o_getf, o_putf, o_putz, o_iald, o_zald, o_iast, o_zast, o_aald, o_alen, o_gets, o_zld, o_zlen, o_cpy, o_call, o_callV, o_ireti, o_iretz, o_lret, o_vret, jg, js, jkp, jkill, jsp, jcs, jfw, jov, Value.category, Option.toList_some, Option.toList_none, List.nil_append, List.cons_append, List.append_nil, Nat.reduceAdd, true_and, and_true, jb0, jb01, jb1, jem, true_or, or_true, Classical.not_not, forall_const, List.length_cons, List.length_nil, Nat.reduceLeDiff, Nat.zero_le, Nat.reduceLT, and_self, not_true_eq_false, not_false_eq_true, false_imp_iff, true_imp_iff, implies_true, and_false, false_and, or_false, false_or, hM, km_37_0 hM, km_37_1 hM, km_37_2 hM, km_37_3 hM, km_37_4 hM, km_37_5 hM, km_37_6 hM, km_37_7 hM, km_37_8 hM, km_37_9 hM, km_37_10 hM, km_37_11 hM, km_37_12 hM, km_37_13 hM, km_37_14 hM, km_37_15 hM, km_37_16 hM, km_37_17 hM, km_37_18 hM, km_37_19 hM, km_37_20 hM, km_37_21 hM, km_37_22 hM, km_37_23 hM, km_37_24 hM, km_37_25 hM, km_37_26 hM, km_37_27 hM, km_37_28 hM, km_37_29 hM, km_37_30 hM, km_37_31 hM, km_37_32 hM, kmo_37 hM, kma_38 hM, kma_39 hM, kma_40 hM, kma_41 hM, kma_42 hM, kma_43 hM, kma_44 hM, kma_45 hM, kma_46 hM, kma_47 hM, kma_48 hM, kma_49 hM, kma_50 hM, kma_52 hM, kma_53 hM, kma_54 hM, kma_55 hM, kma_56 hM, kma_51 hM, hle]
          first | exact h9 | exact ⟨fun _ => h9, fun z => absurd z (by decide)⟩ | exact ⟨fun z => absurd z (by decide), fun _ => h9⟩
        · have h9 := hT1 hp
          rw [jb_neg hp]
          refine H38 60 _ _ _ _ _ _ ?_
          simp only [sg_X7_rule_0, sg_X7_rule_11, sg_X7_rule_33, sg_X7_rule_34, sg_X7_rule_38, sg_X7_rule_66, sg_X7_rule_67, sg_X7_rule_68, sg_X7_rule_74, sg_X7_rule_81, sg_X7_rule_84, sg_X7_rule_119, cd_X7_rule, jwp, o_ic, o_lc, o_iload, o_lload, o_aload, o_istore, o_lstore, o_astore, o_iinc, o_pop, o_dup, o_dup2, o_iadd, o_isub, o_imul, o_iand, o_ior, o_ishl, o_ladd, o_lmul, o_land, o_lor, o_idiv, o_irem, o_ineg, o_i2l, o_l2i, o_i2b, o_i2s, o_lushr, o_lshr, o_lshl, o_lcmp, o_ifeq, o_ifne, o_iflt, o_ifge, o_ifgt, o_ifle, o_iceq, o_icne, o_iclt, o_icge, o_icgt, o_icle, o_goto, o_tsw, jsw, o_lsw, jlk, o_getf, o_putf, o_putz, o_iald, o_zald, o_iast, o_zast, o_aald, o_alen, o_gets, o_zld, o_zlen, o_cpy, o_call, o_callV, o_ireti, o_iretz, o_lret, o_vret, jg, js, jkp, jkill, jsp, jcs, jfw, jov, Value.category, Option.toList_some, Option.toList_none, List.nil_append, List.cons_append, List.append_nil, Nat.reduceAdd, true_and, and_true, jb0, jb01, jb1, jem, true_or, or_true, Classical.not_not, forall_const, List.length_cons, List.length_nil, Nat.reduceLeDiff, Nat.zero_le, Nat.reduceLT, and_self, not_true_eq_false, not_false_eq_true, false_imp_iff, true_imp_iff, implies_true, and_false, false_and, or_false, false_or, hM, km_37_0 hM, km_37_1 hM, km_37_2 hM, km_37_3 hM, km_37_4 hM, km_37_5 hM, km_37_6 hM, km_37_7 hM, km_37_8 hM, km_37_9 hM, km_37_10 hM, km_37_11 hM, km_37_12 hM, km_37_13 hM, km_37_14 hM, km_37_15 hM, km_37_16 hM, km_37_17 hM, km_37_18 hM, km_37_19 hM, km_37_20 hM, km_37_21 hM, km_37_22 hM, km_37_23 hM, km_37_24 hM, km_37_25 hM, km_37_26 hM, km_37_27 hM, km_37_28 hM, km_37_29 hM, km_37_30 hM, km_37_31 hM, km_37_32 hM, kmo_37 hM, kma_38 hM, kma_39 hM, kma_40 hM, kma_41 hM, kma_42 hM, kma_43 hM, kma_44 hM, kma_45 hM, kma_46 hM, kma_47 hM, kma_48 hM, kma_49 hM, kma_50 hM, kma_52 hM, kma_53 hM, kma_54 hM, kma_55 hM, kma_56 hM, kma_51 hM, hle]
          first | exact h9 | exact ⟨fun _ => h9, fun z => absurd rfl z⟩ | exact ⟨fun z => absurd rfl z, fun _ => h9⟩
      | succ m ih =>
        intro k hk
        have h2 := ih (k + 1) (by omega)
        have hlt : ¬ nI N ≤ nI k := fun z => absurd ((nI_leI (by omega) (by omega)).mp z) (by omega)
        have hvk : vp_in (nI k) 12 := vp_in_nI (by omega) (by decide)
        have e2 : (nI N = h 37 1 ∧ mLet g (k + 1)) = ((nI N = h 37 1 ∧ mLet g k) ∧ ¬ jtof (g 41 k).toInt (jdM g) < 0) := by
          apply propext
          unfold mLet
          constructor
          · rintro ⟨z1, z2⟩
            exact ⟨⟨z1, fun q hq => z2 q (by omega)⟩, z2 k (by omega)⟩
          · rintro ⟨⟨z1, z2⟩, z3⟩
            refine ⟨z1, fun q hq => ?_⟩
            by_cases e : q = k
            · rw [e]; exact z3
            · exact z2 q (by omega)
        rw [e2] at h2
        have h3 : ∀ b x3, b = jb ((nI N = h 37 1 ∧ mLet g k) ∧ ¬ jtof (g 41 k).toInt (jdM g) < 0) → G 67 [some (.ref 37), some (.int (nI j)), some (.int (nI N)), x3, some (.int (nI k))] [.int b] K g 0 0 := by
          intro b x3 hb
          subst hb
          exact h67 _ _ _ (h68 _ _ (by rw [nI_1]; exact h2))
        generalize (nI N = h 37 1 ∧ mLet g k) = P at h3 ⊢
        refine H38 60 _ _ _ _ _ _ ?_
        by_cases hp : P
        · simp only [sg_X7_rule_0, sg_X7_rule_11, sg_X7_rule_33, sg_X7_rule_34, sg_X7_rule_38, sg_X7_rule_66, sg_X7_rule_67, sg_X7_rule_68, sg_X7_rule_74, sg_X7_rule_81, sg_X7_rule_84, sg_X7_rule_119, cd_X7_rule, jwp, o_ic, o_lc, o_iload, o_lload, o_aload, o_istore, o_lstore, o_astore, o_iinc, o_pop, o_dup, o_dup2, o_iadd, o_isub, o_imul, o_iand, o_ior, o_ishl, o_ladd, o_lmul, o_land, o_lor, o_idiv, o_irem, o_ineg, o_i2l, o_l2i, o_i2b, o_i2s, o_lushr, o_lshr, o_lshl, o_lcmp, o_ifeq, o_ifne, o_iflt, o_ifge, o_ifgt, o_ifle, o_iceq, o_icne, o_iclt, o_icge, o_icgt, o_icle, o_goto, o_tsw, jsw, o_lsw, jlk, o_getf, o_putf, o_putz, o_iald, o_zald, o_iast, o_zast, o_aald, o_alen, o_gets, o_zld, o_zlen, o_cpy, o_call, o_callV, o_ireti, o_iretz, o_lret, o_vret, jg, js, jkp, jkill, jsp, jcs, jfw, jov, Value.category, Option.toList_some, Option.toList_none, List.nil_append, List.cons_append, List.append_nil, Nat.reduceAdd, true_and, and_true, jb0, jb01, jb1, jem, true_or, or_true, Classical.not_not, forall_const, List.length_cons, List.length_nil, Nat.reduceLeDiff, Nat.zero_le, Nat.reduceLT, and_self, not_true_eq_false, not_false_eq_true, false_imp_iff, true_imp_iff, implies_true, and_false, false_and, or_false, false_or, hM, km_37_0 hM, km_37_1 hM, km_37_2 hM, km_37_3 hM, km_37_4 hM, km_37_5 hM, km_37_6 hM, km_37_7 hM, km_37_8 hM, km_37_9 hM, km_37_10 hM, km_37_11 hM, km_37_12 hM, km_37_13 hM, km_37_14 hM, km_37_15 hM, km_37_16 hM, km_37_17 hM, km_37_18 hM, km_37_19 hM, km_37_20 hM, km_37_21 hM, km_37_22 hM, km_37_23 hM, km_37_24 hM, km_37_25 hM, km_37_26 hM, km_37_27 hM, km_37_28 hM, km_37_29 hM, km_37_30 hM, km_37_31 hM, km_37_32 hM, kmo_37 hM, kma_38 hM, kma_39 hM, kma_40 hM, kma_41 hM, kma_42 hM, kma_43 hM, kma_44 hM, kma_45 hM, kma_46 hM, kma_47 hM, kma_48 hM, kma_49 hM, kma_50 hM, kma_52 hM, kma_53 hM, kma_54 hM, kma_55 hM, kma_56 hM, kma_51 hM, hlt, hp, hvk, nI_clamp (show k < 2147483648 by omega), T_X7_turnOf]
          exact ⟨fun z => h3 0 _ (jb_neg (fun q => q.2 z)).symm, fun z => h3 1 _ (jb_pos ⟨hp, z⟩).symm⟩
        · simp only [sg_X7_rule_0, sg_X7_rule_11, sg_X7_rule_33, sg_X7_rule_34, sg_X7_rule_38, sg_X7_rule_66, sg_X7_rule_67, sg_X7_rule_68, sg_X7_rule_74, sg_X7_rule_81, sg_X7_rule_84, sg_X7_rule_119, cd_X7_rule, jwp, o_ic, o_lc, o_iload, o_lload, o_aload, o_istore, o_lstore, o_astore, o_iinc, o_pop, o_dup, o_dup2, o_iadd, o_isub, o_imul, o_iand, o_ior, o_ishl, o_ladd, o_lmul, o_land, o_lor, o_idiv, o_irem, o_ineg, o_i2l, o_l2i, o_i2b, o_i2s, o_lushr, o_lshr, o_lshl, o_lcmp, o_ifeq, o_ifne, o_iflt, o_ifge, o_ifgt, o_ifle, o_iceq, o_icne, o_iclt, o_icge, o_icgt, o_icle, o_goto, o_tsw, jsw, o_lsw, jlk, o_getf, o_putf, o_putz, o_iald, o_zald, o_iast, o_zast, o_aald, o_alen, o_gets, o_zld, o_zlen, o_cpy, o_call, o_callV, o_ireti, o_iretz, o_lret, o_vret, jg, js, jkp, jkill, jsp, jcs, jfw, jov, Value.category, Option.toList_some, Option.toList_none, List.nil_append, List.cons_append, List.append_nil, Nat.reduceAdd, true_and, and_true, jb0, jb01, jb1, jem, true_or, or_true, Classical.not_not, forall_const, List.length_cons, List.length_nil, Nat.reduceLeDiff, Nat.zero_le, Nat.reduceLT, and_self, not_true_eq_false, not_false_eq_true, false_imp_iff, true_imp_iff, implies_true, and_false, false_and, or_false, false_or, hM, km_37_0 hM, km_37_1 hM, km_37_2 hM, km_37_3 hM, km_37_4 hM, km_37_5 hM, km_37_6 hM, km_37_7 hM, km_37_8 hM, km_37_9 hM, km_37_10 hM, km_37_11 hM, km_37_12 hM, km_37_13 hM, km_37_14 hM, km_37_15 hM, km_37_16 hM, km_37_17 hM, km_37_18 hM, km_37_19 hM, km_37_20 hM, km_37_21 hM, km_37_22 hM, km_37_23 hM, km_37_24 hM, km_37_25 hM, km_37_26 hM, km_37_27 hM, km_37_28 hM, km_37_29 hM, km_37_30 hM, km_37_31 hM, km_37_32 hM, kmo_37 hM, kma_38 hM, kma_39 hM, kma_40 hM, kma_41 hM, kma_42 hM, kma_43 hM, kma_44 hM, kma_45 hM, kma_46 hM, kma_47 hM, kma_48 hM, kma_49 hM, kma_50 hM, kma_52 hM, kma_53 hM, kma_54 hM, kma_55 hM, kma_56 hM, kma_51 hM, hlt, hp, hvk, nI_clamp (show k < 2147483648 by omega), T_X7_turnOf]
          exact h3 0 _ (jb_neg (fun q => hp q.1)).symm
    have c0 := check N 0 (by omega)
    have eM : mLet g 0 := fun q hq => absurd hq (by omega)
    refine H0 60 _ _ _ _ _ _ ?_
    simp only [sg_X7_rule_0, sg_X7_rule_11, sg_X7_rule_33, sg_X7_rule_34, sg_X7_rule_38, sg_X7_rule_66, sg_X7_rule_67, sg_X7_rule_68, sg_X7_rule_74, sg_X7_rule_81, sg_X7_rule_84, sg_X7_rule_119, cd_X7_rule, jwp, o_ic, o_lc, o_iload, o_lload, o_aload, o_istore, o_lstore, o_astore, o_iinc, o_pop, o_dup, o_dup2, o_iadd, o_isub, o_imul, o_iand, o_ior, o_ishl, o_ladd, o_lmul, o_land, o_lor, o_idiv, o_irem, o_ineg, o_i2l, o_l2i, o_i2b, o_i2s, o_lushr, o_lshr, o_lshl, o_lcmp, o_ifeq, o_ifne, o_iflt, o_ifge, o_ifgt, o_ifle, o_iceq, o_icne, o_iclt, o_icge, o_icgt, o_icle, o_goto, o_tsw, jsw, o_lsw, jlk, o_getf, o_putf, o_putz, o_iald, o_zald, o_iast, o_zast, o_aald, o_alen, o_gets, o_zld, o_zlen, o_cpy, o_call, o_callV, o_ireti, o_iretz, o_lret, o_vret, jg, js, jkp, jkill, jsp, jcs, jfw, jov, Value.category, Option.toList_some, Option.toList_none, List.nil_append, List.cons_append, List.append_nil, Nat.reduceAdd, true_and, and_true, jb0, jb01, jb1, jem, true_or, or_true, Classical.not_not, forall_const, List.length_cons, List.length_nil, Nat.reduceLeDiff, Nat.zero_le, Nat.reduceLT, and_self, not_true_eq_false, not_false_eq_true, false_imp_iff, true_imp_iff, implies_true, and_false, false_and, or_false, false_or, hM, km_37_0 hM, km_37_1 hM, km_37_2 hM, km_37_3 hM, km_37_4 hM, km_37_5 hM, km_37_6 hM, km_37_7 hM, km_37_8 hM, km_37_9 hM, km_37_10 hM, km_37_11 hM, km_37_12 hM, km_37_13 hM, km_37_14 hM, km_37_15 hM, km_37_16 hM, km_37_17 hM, km_37_18 hM, km_37_19 hM, km_37_20 hM, km_37_21 hM, km_37_22 hM, km_37_23 hM, km_37_24 hM, km_37_25 hM, km_37_26 hM, km_37_27 hM, km_37_28 hM, km_37_29 hM, km_37_30 hM, km_37_31 hM, km_37_32 hM, kmo_37 hM, kma_38 hM, kma_39 hM, kma_40 hM, kma_41 hM, kma_42 hM, kma_43 hM, kma_44 hM, kma_45 hM, kma_46 hM, kma_47 hM, kma_48 hM, kma_49 hM, kma_50 hM, kma_52 hM, kma_53 hM, kma_54 hM, kma_55 hM, kma_56 hM, kma_51 hM, T_X7_in, c1, e7, ← hg]
    have e1 : g 37 1 = h 37 1 := by rw [hg, up2_s, upd_n (by decide)]
    rw [e1]
    refine ⟨fun z => ?_, fun z => ?_⟩
    · rw [jb_neg (fun q => z q.1)] at c0
      exact c0
    · rw [jb_pos ⟨z, eM⟩] at c0
      exact c0
  · have hT0 := hT0 c1
    refine H0 60 _ _ _ _ _ _ ?_
    simp only [sg_X7_rule_0, sg_X7_rule_11, sg_X7_rule_33, sg_X7_rule_34, sg_X7_rule_38, sg_X7_rule_66, sg_X7_rule_67, sg_X7_rule_68, sg_X7_rule_74, sg_X7_rule_81, sg_X7_rule_84, sg_X7_rule_119, cd_X7_rule, jwp, o_ic, o_lc, o_iload, o_lload, o_aload, o_istore, o_lstore, o_astore, o_iinc, o_pop, o_dup, o_dup2, o_iadd, o_isub, o_imul, o_iand, o_ior, o_ishl, o_ladd, o_lmul, o_land, o_lor, o_idiv, o_irem, o_ineg, o_i2l, o_l2i, o_i2b, o_i2s, o_lushr, o_lshr, o_lshl, o_lcmp, o_ifeq, o_ifne, o_iflt, o_ifge, o_ifgt, o_ifle, o_iceq, o_icne, o_iclt, o_icge, o_icgt, o_icle, o_goto, o_tsw, jsw, o_lsw, jlk, o_getf, o_putf, o_putz, o_iald, o_zald, o_iast, o_zast, o_aald, o_alen, o_gets, o_zld, o_zlen, o_cpy, o_call, o_callV, o_ireti, o_iretz, o_lret, o_vret, jg, js, jkp, jkill, jsp, jcs, jfw, jov, Value.category, Option.toList_some, Option.toList_none, List.nil_append, List.cons_append, List.append_nil, Nat.reduceAdd, true_and, and_true, jb0, jb01, jb1, jem, true_or, or_true, Classical.not_not, forall_const, List.length_cons, List.length_nil, Nat.reduceLeDiff, Nat.zero_le, Nat.reduceLT, and_self, not_true_eq_false, not_false_eq_true, false_imp_iff, true_imp_iff, implies_true, and_false, false_and, or_false, false_or, hM, km_37_0 hM, km_37_1 hM, km_37_2 hM, km_37_3 hM, km_37_4 hM, km_37_5 hM, km_37_6 hM, km_37_7 hM, km_37_8 hM, km_37_9 hM, km_37_10 hM, km_37_11 hM, km_37_12 hM, km_37_13 hM, km_37_14 hM, km_37_15 hM, km_37_16 hM, km_37_17 hM, km_37_18 hM, km_37_19 hM, km_37_20 hM, km_37_21 hM, km_37_22 hM, km_37_23 hM, km_37_24 hM, km_37_25 hM, km_37_26 hM, km_37_27 hM, km_37_28 hM, km_37_29 hM, km_37_30 hM, km_37_31 hM, km_37_32 hM, kmo_37 hM, kma_38 hM, kma_39 hM, kma_40 hM, kma_41 hM, kma_42 hM, kma_43 hM, kma_44 hM, kma_45 hM, kma_46 hM, kma_47 hM, kma_48 hM, kma_49 hM, kma_50 hM, kma_52 hM, kma_53 hM, kma_54 hM, kma_55 hM, kma_56 hM, kma_51 hM, T_X7_in, c1]
    exact hT0
theorem m_X7_rule (l : Launch) : jHolds vwCl l yX7_rule wsX7_rule 2 42 0 0 T_X7_rule := by
  refine m_X7_rule_of l (fun G Q vs K h H0 H38 H67 H68 H84 hT => ?_)
  unfold T_X7_rule at hT
  split at hT
  · obtain ⟨rfl, hT⟩ := hT
    exact ⟨Nat.le_of_ble_eq_true rfl, v_X7_rule hT H0 H38 H67 H68 H84⟩
  · exact hT.elim
