/-! ===== the reference: floor, tape, rules, ants ===== -/

/-! X7_ant -/
def T_X7_ant : jT := fun vs K h Q => match vs with
  | [.ref r0, .int x, .int y, .int d, .int r] => r0 = 37 ∧ (jXM K ∧ (0 ≤ (h 37 8).toInt ∧ (h 37 8).toInt ≤ 6) ∧ (¬ (onF x y ∧ (0 ≤ d ∧ d ≤ jdM h - 1) ∧ 0 ≤ r ∧ r ≤ 3) → Q (some (.int (-1))) K h) ∧ (onF x y ∧ (0 ≤ d ∧ d ≤ jdM h - 1) ∧ 0 ≤ r ∧ r ≤ 3 → (h 37 8 = 6 → Q (some (.int (-3))) K h) ∧ (¬ h 37 8 = 6 → Q (some (.int (h 37 8 + 1 - 1))) K (up2 (up2 (up2 (up2 (up2 (up2 h 42 (h 37 8).toNatClampNeg x) 43 (h 37 8).toNatClampNeg y) 44 (h 37 8).toNatClampNeg d) 45 (h 37 8).toNatClampNeg r) 37 8 (h 37 8 + 1)) 37 20 1))))
  | _ => False
def sg_X7_ant_0 : jS := [(o_iload 1, 1), (o_iload 2, 1), (o_call 2 T_X7_isCell, 3), (o_ifeq 32, 3), (o_iload 3, 1), (o_ic (0), 1), (o_aload 0, 1), (o_callV 1 7 T_X7_directions, 3), (o_ic (1), 1), (o_isub, 1), (o_call 3 T_X7_in, 3), (o_ifeq 32, 3), (o_iload 4, 2), (o_ic (0), 1), (o_ic (3), 1), (o_call 3 T_X7_in, 3), (o_ifne 34, 3), (o_ic (-1), 1), (o_ireti, 1)]
def sg_X7_ant_32 : jS := [(o_ic (-1), 1), (o_ireti, 1)]
def sg_X7_ant_34 : jS := [(o_aload 0, 1), (o_getf 7 8, 3), (o_ic (6), 2), (o_icne 46, 3), (o_ic (-3), 2), (o_ireti, 1)]
def sg_X7_ant_46 : jS := [(o_aload 0, 1), (o_getf 7 9, 3), (o_aload 0, 1), (o_getf 7 8, 3), (o_iload 1, 1), (o_iast, 1), (o_aload 0, 1), (o_getf 7 10, 3), (o_aload 0, 1), (o_getf 7 8, 3), (o_iload 2, 1), (o_iast, 1), (o_aload 0, 1), (o_getf 7 11, 3), (o_aload 0, 1), (o_getf 7 8, 3), (o_iload 3, 1), (o_iast, 1), (o_aload 0, 1), (o_getf 7 12, 3), (o_aload 0, 1), (o_getf 7 8, 3), (o_iload 4, 2), (o_iast, 1), (o_aload 0, 1), (o_dup, 1), (o_getf 7 8, 3), (o_ic (1), 1), (o_iadd, 1), (o_putf 7 8, 3), (o_aload 0, 1), (o_ic (1), 1), (o_putz 7 20, 3), (o_aload 0, 1), (o_getf 7 8, 3), (o_ic (1), 1), (o_isub, 1), (o_ireti, 1)]
def cd_X7_ant : Nat → jS := fun t => match t with
  | 32 => sg_X7_ant_32
  | 34 => sg_X7_ant_34
  | 46 => sg_X7_ant_46
  | _ => []
theorem wl_X7_ant_27 : Cond.fieldLink RX7 27 (TX7 9).1 (TX7 9).2.1 (TX7 9).2.2.1 ∈ wsX7_ant := by decide +kernel
theorem wl_X7_ant_30 : Cond.fieldLink RX7 30 (TX7 10).1 (TX7 10).2.1 (TX7 10).2.2.1 ∈ wsX7_ant := by decide +kernel
theorem wl_X7_ant_33 : Cond.fieldLink RX7 33 (TX7 11).1 (TX7 11).2.1 (TX7 11).2.2.1 ∈ wsX7_ant := by decide +kernel
theorem wl_X7_ant_36 : Cond.fieldLink RX7 36 (TX7 12).1 (TX7 12).2.1 (TX7 12).2.2.1 ∈ wsX7_ant := by decide +kernel
theorem wl_X7_ant_81 : Cond.fieldLink RX7 81 (TX7 8).1 (TX7 8).2.1 (TX7 8).2.2.1 ∈ wsX7_ant := by decide +kernel
theorem wl_X7_ant_110 : Cond.fieldLink RX7 110 (TX7 20).1 (TX7 20).2.1 (TX7 20).2.2.1 ∈ wsX7_ant := by decide +kernel
theorem wi_X7_ant_X7 : ∀ w ∈ u_ws RX7 TX7 33, w ∈ wsX7_ant := by decide +kernel
def E_X7_ant (Γ : jΓ) (Q : jPost) : Prop := Γ.2.2.2.2.2.2.2.2.2.2.1 = 5 ∧ Γ.2.2.2.2.2.2.2.2.2.2.2.1 = vwCl ∧ jC Γ cX7_ant RX7 "ant" (some .int) wsX7_ant 2 43 0 0 ∧ jR Γ Q 0 0
theorem oo_X7_ant_0 {Γ : jΓ} {Q : jPost} (E : E_X7_ant Γ Q) : jSA Γ Q 0 (o_iload 1) 1 := so_iload_n E.2.2.1 rfl dX7_ant_0
theorem oo_X7_ant_1 {Γ : jΓ} {Q : jPost} (E : E_X7_ant Γ Q) : jSA Γ Q 1 (o_iload 2) 1 := so_iload_n E.2.2.1 rfl dX7_ant_1
theorem oo_X7_ant_2 {Γ : jΓ} {Q : jPost} (E : E_X7_ant Γ Q) : jSA Γ Q 2 (o_call 2 T_X7_isCell) 3 := so_callS E.2.2.1 gX7_ant_X7_isCell (by decide +kernel) rfl (by rw [E.2.1]; exact m_X7_isCell _) (by decide) (by decide) dX7_ant_2
theorem oo_X7_ant_5 {Γ : jΓ} {Q : jPost} (E : E_X7_ant Γ Q) : jSA Γ Q 5 (o_ifeq 32) 3 := so_ifeq E.2.2.1 (by decide) dX7_ant_5
theorem oo_X7_ant_8 {Γ : jΓ} {Q : jPost} (E : E_X7_ant Γ Q) : jSA Γ Q 8 (o_iload 3) 1 := so_iload_n E.2.2.1 rfl dX7_ant_8
theorem oo_X7_ant_9 {Γ : jΓ} {Q : jPost} (E : E_X7_ant Γ Q) : jSA Γ Q 9 (o_ic (0)) 1 := so_iconst E.2.2.1 rfl dX7_ant_9
theorem oo_X7_ant_10 {Γ : jΓ} {Q : jPost} (E : E_X7_ant Γ Q) : jSA Γ Q 10 (o_aload 0) 1 := so_aload_n E.2.2.1 rfl dX7_ant_10
theorem oo_X7_ant_11 {Γ : jΓ} {Q : jPost} (E : E_X7_ant Γ Q) : jSA Γ Q 11 (o_callV 1 7 T_X7_directions) 3 := so_callV E.2.2.1 (ci := 7) (by rw [E.2.1]; rfl) gX7_ant_X7_directions (by decide +kernel) rfl (by rw [E.2.1]; exact m_X7_directions _) (by decide) (by decide) dX7_ant_11
theorem oo_X7_ant_14 {Γ : jΓ} {Q : jPost} (E : E_X7_ant Γ Q) : jSA Γ Q 14 (o_ic (1)) 1 := so_iconst E.2.2.1 rfl dX7_ant_14
theorem oo_X7_ant_15 {Γ : jΓ} {Q : jPost} (E : E_X7_ant Γ Q) : jSA Γ Q 15 (o_isub) 1 := so_isub E.2.2.1 dX7_ant_15
theorem oo_X7_ant_16 {Γ : jΓ} {Q : jPost} (E : E_X7_ant Γ Q) : jSA Γ Q 16 (o_call 3 T_X7_in) 3 := so_callS E.2.2.1 gX7_ant_X7_in (by decide +kernel) rfl (by rw [E.2.1]; exact m_X7_in _) (by decide) (by decide) dX7_ant_16
theorem oo_X7_ant_19 {Γ : jΓ} {Q : jPost} (E : E_X7_ant Γ Q) : jSA Γ Q 19 (o_ifeq 32) 3 := so_ifeq E.2.2.1 (by decide) dX7_ant_19
theorem oo_X7_ant_22 {Γ : jΓ} {Q : jPost} (E : E_X7_ant Γ Q) : jSA Γ Q 22 (o_iload 4) 2 := so_iload E.2.2.1 dX7_ant_22
theorem oo_X7_ant_24 {Γ : jΓ} {Q : jPost} (E : E_X7_ant Γ Q) : jSA Γ Q 24 (o_ic (0)) 1 := so_iconst E.2.2.1 rfl dX7_ant_24
theorem oo_X7_ant_25 {Γ : jΓ} {Q : jPost} (E : E_X7_ant Γ Q) : jSA Γ Q 25 (o_ic (3)) 1 := so_iconst E.2.2.1 rfl dX7_ant_25
theorem oo_X7_ant_26 {Γ : jΓ} {Q : jPost} (E : E_X7_ant Γ Q) : jSA Γ Q 26 (o_call 3 T_X7_in) 3 := so_callS E.2.2.1 gX7_ant_X7_in (by decide +kernel) rfl (by rw [E.2.1]; exact m_X7_in _) (by decide) (by decide) dX7_ant_26
theorem oo_X7_ant_29 {Γ : jΓ} {Q : jPost} (E : E_X7_ant Γ Q) : jSA Γ Q 29 (o_ifne 34) 3 := so_ifne E.2.2.1 (by decide) dX7_ant_29
theorem oo_X7_ant_32 {Γ : jΓ} {Q : jPost} (E : E_X7_ant Γ Q) : jSA Γ Q 32 (o_ic (-1)) 1 := so_iconst E.2.2.1 rfl dX7_ant_32
theorem oo_X7_ant_33 {Γ : jΓ} {Q : jPost} (E : E_X7_ant Γ Q) : jSA Γ Q 33 (o_ireti) 1 := so_ireti E.2.2.1 E.2.2.2 dX7_ant_33
theorem oo_X7_ant_34 {Γ : jΓ} {Q : jPost} (E : E_X7_ant Γ Q) : jSA Γ Q 34 (o_aload 0) 1 := so_aload_n E.2.2.1 rfl dX7_ant_34
theorem oo_X7_ant_35 {Γ : jΓ} {Q : jPost} (E : E_X7_ant Γ Q) : jSA Γ Q 35 (o_getf 7 8) 3 := so_getf (ci := 7) E.2.2.1 wi_X7_ant_X7 (by rw [E.2.1]; rfl) 8 (by decide) wl_X7_ant_81 dX7_ant_35
theorem oo_X7_ant_38 {Γ : jΓ} {Q : jPost} (E : E_X7_ant Γ Q) : jSA Γ Q 38 (o_ic (6)) 2 := so_bipush E.2.2.1 rfl dX7_ant_38
theorem oo_X7_ant_40 {Γ : jΓ} {Q : jPost} (E : E_X7_ant Γ Q) : jSA Γ Q 40 (o_icne 46) 3 := so_icne E.2.2.1 (by decide) dX7_ant_40
theorem oo_X7_ant_43 {Γ : jΓ} {Q : jPost} (E : E_X7_ant Γ Q) : jSA Γ Q 43 (o_ic (-3)) 2 := so_bipush E.2.2.1 rfl dX7_ant_43
theorem oo_X7_ant_45 {Γ : jΓ} {Q : jPost} (E : E_X7_ant Γ Q) : jSA Γ Q 45 (o_ireti) 1 := so_ireti E.2.2.1 E.2.2.2 dX7_ant_45
theorem oo_X7_ant_46 {Γ : jΓ} {Q : jPost} (E : E_X7_ant Γ Q) : jSA Γ Q 46 (o_aload 0) 1 := so_aload_n E.2.2.1 rfl dX7_ant_46
theorem oo_X7_ant_47 {Γ : jΓ} {Q : jPost} (E : E_X7_ant Γ Q) : jSA Γ Q 47 (o_getf 7 9) 3 := so_getf (ci := 7) E.2.2.1 wi_X7_ant_X7 (by rw [E.2.1]; rfl) 9 (by decide) wl_X7_ant_27 dX7_ant_47
theorem oo_X7_ant_50 {Γ : jΓ} {Q : jPost} (E : E_X7_ant Γ Q) : jSA Γ Q 50 (o_aload 0) 1 := so_aload_n E.2.2.1 rfl dX7_ant_50
theorem oo_X7_ant_51 {Γ : jΓ} {Q : jPost} (E : E_X7_ant Γ Q) : jSA Γ Q 51 (o_getf 7 8) 3 := so_getf (ci := 7) E.2.2.1 wi_X7_ant_X7 (by rw [E.2.1]; rfl) 8 (by decide) wl_X7_ant_81 dX7_ant_51
theorem oo_X7_ant_54 {Γ : jΓ} {Q : jPost} (E : E_X7_ant Γ Q) : jSA Γ Q 54 (o_iload 1) 1 := so_iload_n E.2.2.1 rfl dX7_ant_54
theorem oo_X7_ant_55 {Γ : jΓ} {Q : jPost} (E : E_X7_ant Γ Q) : jSA Γ Q 55 (o_iast) 1 := so_iast E.2.2.1 dX7_ant_55
theorem oo_X7_ant_56 {Γ : jΓ} {Q : jPost} (E : E_X7_ant Γ Q) : jSA Γ Q 56 (o_aload 0) 1 := so_aload_n E.2.2.1 rfl dX7_ant_56
theorem oo_X7_ant_57 {Γ : jΓ} {Q : jPost} (E : E_X7_ant Γ Q) : jSA Γ Q 57 (o_getf 7 10) 3 := so_getf (ci := 7) E.2.2.1 wi_X7_ant_X7 (by rw [E.2.1]; rfl) 10 (by decide) wl_X7_ant_30 dX7_ant_57
theorem oo_X7_ant_60 {Γ : jΓ} {Q : jPost} (E : E_X7_ant Γ Q) : jSA Γ Q 60 (o_aload 0) 1 := so_aload_n E.2.2.1 rfl dX7_ant_60
theorem oo_X7_ant_61 {Γ : jΓ} {Q : jPost} (E : E_X7_ant Γ Q) : jSA Γ Q 61 (o_getf 7 8) 3 := so_getf (ci := 7) E.2.2.1 wi_X7_ant_X7 (by rw [E.2.1]; rfl) 8 (by decide) wl_X7_ant_81 dX7_ant_61
theorem oo_X7_ant_64 {Γ : jΓ} {Q : jPost} (E : E_X7_ant Γ Q) : jSA Γ Q 64 (o_iload 2) 1 := so_iload_n E.2.2.1 rfl dX7_ant_64
theorem oo_X7_ant_65 {Γ : jΓ} {Q : jPost} (E : E_X7_ant Γ Q) : jSA Γ Q 65 (o_iast) 1 := so_iast E.2.2.1 dX7_ant_65
theorem oo_X7_ant_66 {Γ : jΓ} {Q : jPost} (E : E_X7_ant Γ Q) : jSA Γ Q 66 (o_aload 0) 1 := so_aload_n E.2.2.1 rfl dX7_ant_66
theorem oo_X7_ant_67 {Γ : jΓ} {Q : jPost} (E : E_X7_ant Γ Q) : jSA Γ Q 67 (o_getf 7 11) 3 := so_getf (ci := 7) E.2.2.1 wi_X7_ant_X7 (by rw [E.2.1]; rfl) 11 (by decide) wl_X7_ant_33 dX7_ant_67
theorem oo_X7_ant_70 {Γ : jΓ} {Q : jPost} (E : E_X7_ant Γ Q) : jSA Γ Q 70 (o_aload 0) 1 := so_aload_n E.2.2.1 rfl dX7_ant_70
theorem oo_X7_ant_71 {Γ : jΓ} {Q : jPost} (E : E_X7_ant Γ Q) : jSA Γ Q 71 (o_getf 7 8) 3 := so_getf (ci := 7) E.2.2.1 wi_X7_ant_X7 (by rw [E.2.1]; rfl) 8 (by decide) wl_X7_ant_81 dX7_ant_71
theorem oo_X7_ant_74 {Γ : jΓ} {Q : jPost} (E : E_X7_ant Γ Q) : jSA Γ Q 74 (o_iload 3) 1 := so_iload_n E.2.2.1 rfl dX7_ant_74
theorem oo_X7_ant_75 {Γ : jΓ} {Q : jPost} (E : E_X7_ant Γ Q) : jSA Γ Q 75 (o_iast) 1 := so_iast E.2.2.1 dX7_ant_75
theorem oo_X7_ant_76 {Γ : jΓ} {Q : jPost} (E : E_X7_ant Γ Q) : jSA Γ Q 76 (o_aload 0) 1 := so_aload_n E.2.2.1 rfl dX7_ant_76
theorem oo_X7_ant_77 {Γ : jΓ} {Q : jPost} (E : E_X7_ant Γ Q) : jSA Γ Q 77 (o_getf 7 12) 3 := so_getf (ci := 7) E.2.2.1 wi_X7_ant_X7 (by rw [E.2.1]; rfl) 12 (by decide) wl_X7_ant_36 dX7_ant_77
theorem oo_X7_ant_80 {Γ : jΓ} {Q : jPost} (E : E_X7_ant Γ Q) : jSA Γ Q 80 (o_aload 0) 1 := so_aload_n E.2.2.1 rfl dX7_ant_80
theorem oo_X7_ant_81 {Γ : jΓ} {Q : jPost} (E : E_X7_ant Γ Q) : jSA Γ Q 81 (o_getf 7 8) 3 := so_getf (ci := 7) E.2.2.1 wi_X7_ant_X7 (by rw [E.2.1]; rfl) 8 (by decide) wl_X7_ant_81 dX7_ant_81
theorem oo_X7_ant_84 {Γ : jΓ} {Q : jPost} (E : E_X7_ant Γ Q) : jSA Γ Q 84 (o_iload 4) 2 := so_iload E.2.2.1 dX7_ant_84
theorem oo_X7_ant_86 {Γ : jΓ} {Q : jPost} (E : E_X7_ant Γ Q) : jSA Γ Q 86 (o_iast) 1 := so_iast E.2.2.1 dX7_ant_86
theorem oo_X7_ant_87 {Γ : jΓ} {Q : jPost} (E : E_X7_ant Γ Q) : jSA Γ Q 87 (o_aload 0) 1 := so_aload_n E.2.2.1 rfl dX7_ant_87
theorem oo_X7_ant_88 {Γ : jΓ} {Q : jPost} (E : E_X7_ant Γ Q) : jSA Γ Q 88 (o_dup) 1 := so_dup E.2.2.1 dX7_ant_88
theorem oo_X7_ant_89 {Γ : jΓ} {Q : jPost} (E : E_X7_ant Γ Q) : jSA Γ Q 89 (o_getf 7 8) 3 := so_getf (ci := 7) E.2.2.1 wi_X7_ant_X7 (by rw [E.2.1]; rfl) 8 (by decide) wl_X7_ant_81 dX7_ant_89
theorem oo_X7_ant_92 {Γ : jΓ} {Q : jPost} (E : E_X7_ant Γ Q) : jSA Γ Q 92 (o_ic (1)) 1 := so_iconst E.2.2.1 rfl dX7_ant_92
theorem oo_X7_ant_93 {Γ : jΓ} {Q : jPost} (E : E_X7_ant Γ Q) : jSA Γ Q 93 (o_iadd) 1 := so_iadd E.2.2.1 dX7_ant_93
theorem oo_X7_ant_94 {Γ : jΓ} {Q : jPost} (E : E_X7_ant Γ Q) : jSA Γ Q 94 (o_putf 7 8) 3 := so_putf (ci := 7) E.2.2.1 tyX7 tyX7_ok nmX7 wi_X7_ant_X7 (by rw [E.2.1]; rfl) 8 (by decide) wl_X7_ant_81 rfl (by decide +kernel) dX7_ant_94
theorem oo_X7_ant_97 {Γ : jΓ} {Q : jPost} (E : E_X7_ant Γ Q) : jSA Γ Q 97 (o_aload 0) 1 := so_aload_n E.2.2.1 rfl dX7_ant_97
theorem oo_X7_ant_98 {Γ : jΓ} {Q : jPost} (E : E_X7_ant Γ Q) : jSA Γ Q 98 (o_ic (1)) 1 := so_iconst E.2.2.1 rfl dX7_ant_98
theorem oo_X7_ant_99 {Γ : jΓ} {Q : jPost} (E : E_X7_ant Γ Q) : jSA Γ Q 99 (o_putz 7 20) 3 := so_putz (ci := 7) E.2.2.1 tyX7 tyX7_ok nmX7 wi_X7_ant_X7 (by rw [E.2.1]; rfl) 20 (by decide) wl_X7_ant_110 rfl (by decide +kernel) dX7_ant_99
theorem oo_X7_ant_102 {Γ : jΓ} {Q : jPost} (E : E_X7_ant Γ Q) : jSA Γ Q 102 (o_aload 0) 1 := so_aload_n E.2.2.1 rfl dX7_ant_102
theorem oo_X7_ant_103 {Γ : jΓ} {Q : jPost} (E : E_X7_ant Γ Q) : jSA Γ Q 103 (o_getf 7 8) 3 := so_getf (ci := 7) E.2.2.1 wi_X7_ant_X7 (by rw [E.2.1]; rfl) 8 (by decide) wl_X7_ant_81 dX7_ant_103
theorem oo_X7_ant_106 {Γ : jΓ} {Q : jPost} (E : E_X7_ant Γ Q) : jSA Γ Q 106 (o_ic (1)) 1 := so_iconst E.2.2.1 rfl dX7_ant_106
theorem oo_X7_ant_107 {Γ : jΓ} {Q : jPost} (E : E_X7_ant Γ Q) : jSA Γ Q 107 (o_isub) 1 := so_isub E.2.2.1 dX7_ant_107
theorem oo_X7_ant_108 {Γ : jΓ} {Q : jPost} (E : E_X7_ant Γ Q) : jSA Γ Q 108 (o_ireti) 1 := so_ireti E.2.2.1 E.2.2.2 dX7_ant_108
theorem ok_X7_ant_0 {Γ : jΓ} {Q : jPost} (E : E_X7_ant Γ Q) : jSS Γ Q 0 sg_X7_ant_0 := ⟨oo_X7_ant_0 E, oo_X7_ant_1 E, oo_X7_ant_2 E, oo_X7_ant_5 E, oo_X7_ant_8 E, oo_X7_ant_9 E, oo_X7_ant_10 E, oo_X7_ant_11 E, oo_X7_ant_14 E, oo_X7_ant_15 E, oo_X7_ant_16 E, oo_X7_ant_19 E, oo_X7_ant_22 E, oo_X7_ant_24 E, oo_X7_ant_25 E, oo_X7_ant_26 E, oo_X7_ant_29 E, oo_X7_ant_32 E, oo_X7_ant_33 E, trivial⟩
theorem ok_X7_ant_32 {Γ : jΓ} {Q : jPost} (E : E_X7_ant Γ Q) : jSS Γ Q 32 sg_X7_ant_32 := ⟨oo_X7_ant_32 E, oo_X7_ant_33 E, trivial⟩
theorem ok_X7_ant_34 {Γ : jΓ} {Q : jPost} (E : E_X7_ant Γ Q) : jSS Γ Q 34 sg_X7_ant_34 := ⟨oo_X7_ant_34 E, oo_X7_ant_35 E, oo_X7_ant_38 E, oo_X7_ant_40 E, oo_X7_ant_43 E, oo_X7_ant_45 E, trivial⟩
theorem ok_X7_ant_46 {Γ : jΓ} {Q : jPost} (E : E_X7_ant Γ Q) : jSS Γ Q 46 sg_X7_ant_46 := ⟨oo_X7_ant_46 E, oo_X7_ant_47 E, oo_X7_ant_50 E, oo_X7_ant_51 E, oo_X7_ant_54 E, oo_X7_ant_55 E, oo_X7_ant_56 E, oo_X7_ant_57 E, oo_X7_ant_60 E, oo_X7_ant_61 E, oo_X7_ant_64 E, oo_X7_ant_65 E, oo_X7_ant_66 E, oo_X7_ant_67 E, oo_X7_ant_70 E, oo_X7_ant_71 E, oo_X7_ant_74 E, oo_X7_ant_75 E, oo_X7_ant_76 E, oo_X7_ant_77 E, oo_X7_ant_80 E, oo_X7_ant_81 E, oo_X7_ant_84 E, oo_X7_ant_86 E, oo_X7_ant_87 E, oo_X7_ant_88 E, oo_X7_ant_89 E, oo_X7_ant_92 E, oo_X7_ant_93 E, oo_X7_ant_94 E, oo_X7_ant_97 E, oo_X7_ant_98 E, oo_X7_ant_99 E, oo_X7_ant_102 E, oo_X7_ant_103 E, oo_X7_ant_106 E, oo_X7_ant_107 E, oo_X7_ant_108 E, trivial⟩
theorem okc_X7_ant {Γ : jΓ} {Q : jPost} (E : E_X7_ant Γ Q) (t : Nat) : jSS Γ Q t (cd_X7_ant t) := by
  unfold cd_X7_ant
  split
  · exact ok_X7_ant_32 E
  · exact ok_X7_ant_34 E
  · exact ok_X7_ant_46 E
  · trivial
theorem m_X7_ant_of (l : Launch) (hv : ∀ (G : jGt) (Q : jPost) (vs : List Value) (K : List jK) (h : jM), jHd cd_X7_ant G Q sg_X7_ant_0 0 → T_X7_ant vs K h Q → (lg_sl vs).length ≤ 5 ∧ G 0 (jinit vs 5) [] K h 0 0) : jHolds vwCl l yX7_ant wsX7_ant 2 43 0 0 T_X7_ant := by
  refine jMet (cc := cX7_ant) (maxL := 5) (rt := (some .int)) (by decide +kernel) rfl (fun Γ Q vs K h hl hn hcl C hR hT => hv (jG Γ) Q vs K h ?_ hT)
  · exact fun n L st K h ce sl => jwp_ok (okc_X7_ant ⟨hn, hcl, C, hR⟩) n sg_X7_ant_0 0 (ok_X7_ant_0 ⟨hn, hcl, C, hR⟩) L st K h ce sl
set_option maxHeartbeats 4000000 in
set_option maxRecDepth 100000 in
theorem v_X7_ant {G : jGt} {Q : jPost} {K : List jK} {h : jM} {x : Int32} {y : Int32} {d : Int32} {r : Int32} (hT : jXM K ∧ (0 ≤ (h 37 8).toInt ∧ (h 37 8).toInt ≤ 6) ∧ (¬ (onF x y ∧ (0 ≤ d ∧ d ≤ jdM h - 1) ∧ 0 ≤ r ∧ r ≤ 3) → Q (some (.int (-1))) K h) ∧ (onF x y ∧ (0 ≤ d ∧ d ≤ jdM h - 1) ∧ 0 ≤ r ∧ r ≤ 3 → (h 37 8 = 6 → Q (some (.int (-3))) K h) ∧ (¬ h 37 8 = 6 → Q (some (.int (h 37 8 + 1 - 1))) K (up2 (up2 (up2 (up2 (up2 (up2 h 42 (h 37 8).toNatClampNeg x) 43 (h 37 8).toNatClampNeg y) 44 (h 37 8).toNatClampNeg d) 45 (h 37 8).toNatClampNeg r) 37 8 (h 37 8 + 1)) 37 20 1)))) (H0 : jHd cd_X7_ant G Q sg_X7_ant_0 0) : G 0 [some (.ref 37), some (.int x), some (.int y), some (.int d), some (.int r)] [] K h 0 0 := by
  obtain ⟨hM, ⟨ht0, ht1⟩, hT0, hT1⟩ := hT
  refine H0 120 _ _ _ _ _ _ ?_
  by_cases c1 : onF x y
  · by_cases c2 : 0 ≤ d ∧ d ≤ jdM h - 1
    · by_cases c3 : 0 ≤ r ∧ r ≤ 3
      · obtain ⟨hT1, hT2⟩ := hT1 ⟨c1, c2, c3⟩
        by_cases c4 : h 37 8 = 6
        · have hT1 := hT1 c4
          simp only [sg_X7_ant_0, sg_X7_ant_32, sg_X7_ant_34, sg_X7_ant_46, cd_X7_ant, jwp, o_ic, o_lc, o_iload, o_lload, o_aload, o_istore, o_lstore, o_astore, o_iinc, o_pop, o_dup, o_dup2, o_iadd, o_isub, o_imul, o_iand, o_ior, o_ishl, o_ladd, o_lmul, o_land, o_lor, o_idiv, o_irem, o_ineg, o_i2l, o_l2i, o_i2b, o_i2s, o_lushr, o_lshr, o_lshl, o_lcmp, o_ifeq, o_ifne, o_iflt, o_ifge, o_ifgt, o_ifle, o_iceq, o_icne, o_iclt, o_icge, o_icgt, o_icle, o_goto, o_tsw, jsw, o_lsw, jlk, o_getf, o_putf, o_putz, o_iald, o_zald, o_iast, o_zast, o_aald, o_alen, o_gets, o_zld, o_zlen, o_cpy, o_call, o_callV, o_ireti, o_iretz, o_lret, o_vret, jg, js, jkp, jkill, jsp, jcs, jfw, jov, Value.category, Option.toList_some, Option.toList_none, List.nil_append, List.cons_append, List.append_nil, Nat.reduceAdd, true_and, and_true, jb0, jb01, jb1, jem, true_or, or_true, Classical.not_not, forall_const, List.length_cons, List.length_nil, Nat.reduceLeDiff, Nat.zero_le, Nat.reduceLT, and_self, not_true_eq_false, not_false_eq_true, false_imp_iff, true_imp_iff, implies_true, and_false, false_and, or_false, false_or, hM, km_37_0 hM, km_37_1 hM, km_37_2 hM, km_37_3 hM, km_37_4 hM, km_37_5 hM, km_37_6 hM, km_37_7 hM, km_37_8 hM, km_37_9 hM, km_37_10 hM, km_37_11 hM, km_37_12 hM, km_37_13 hM, km_37_14 hM, km_37_15 hM, km_37_16 hM, km_37_17 hM, km_37_18 hM, km_37_19 hM, km_37_20 hM, km_37_21 hM, km_37_22 hM, km_37_23 hM, km_37_24 hM, km_37_25 hM, km_37_26 hM, km_37_27 hM, km_37_28 hM, km_37_29 hM, km_37_30 hM, km_37_31 hM, km_37_32 hM, kmo_37 hM, kma_38 hM, kma_39 hM, kma_40 hM, kma_41 hM, kma_42 hM, kma_43 hM, kma_44 hM, kma_45 hM, kma_46 hM, kma_47 hM, kma_48 hM, kma_49 hM, kma_50 hM, kma_52 hM, kma_53 hM, kma_54 hM, kma_55 hM, kma_56 hM, kma_51 hM, T_X7_isCell, T_X7_directions, T_X7_in, c1, c2, c3, c4]
          exact hT1
        · have hT2 := hT2 c4
          have d4 : ¬ (h 37 8).toInt = 6 := fun z => c4 (Int32.toInt_inj.mp z)
          have hv : vp_in (h 37 8) 6 := vp_in_iff.mpr ⟨ht0, by omega⟩
          simp only [sg_X7_ant_0, sg_X7_ant_32, sg_X7_ant_34, sg_X7_ant_46, cd_X7_ant, jwp, o_ic, o_lc, o_iload, o_lload, o_aload, o_istore, o_lstore, o_astore, o_iinc, o_pop, o_dup, o_dup2, o_iadd, o_isub, o_imul, o_iand, o_ior, o_ishl, o_ladd, o_lmul, o_land, o_lor, o_idiv, o_irem, o_ineg, o_i2l, o_l2i, o_i2b, o_i2s, o_lushr, o_lshr, o_lshl, o_lcmp, o_ifeq, o_ifne, o_iflt, o_ifge, o_ifgt, o_ifle, o_iceq, o_icne, o_iclt, o_icge, o_icgt, o_icle, o_goto, o_tsw, jsw, o_lsw, jlk, o_getf, o_putf, o_putz, o_iald, o_zald, o_iast, o_zast, o_aald, o_alen, o_gets, o_zld, o_zlen, o_cpy, o_call, o_callV, o_ireti, o_iretz, o_lret, o_vret, jg, js, jkp, jkill, jsp, jcs, jfw, jov, Value.category, Option.toList_some, Option.toList_none, List.nil_append, List.cons_append, List.append_nil, Nat.reduceAdd, true_and, and_true, jb0, jb01, jb1, jem, true_or, or_true, Classical.not_not, forall_const, List.length_cons, List.length_nil, Nat.reduceLeDiff, Nat.zero_le, Nat.reduceLT, and_self, not_true_eq_false, not_false_eq_true, false_imp_iff, true_imp_iff, implies_true, and_false, false_and, or_false, false_or, hM, km_37_0 hM, km_37_1 hM, km_37_2 hM, km_37_3 hM, km_37_4 hM, km_37_5 hM, km_37_6 hM, km_37_7 hM, km_37_8 hM, km_37_9 hM, km_37_10 hM, km_37_11 hM, km_37_12 hM, km_37_13 hM, km_37_14 hM, km_37_15 hM, km_37_16 hM, km_37_17 hM, km_37_18 hM, km_37_19 hM, km_37_20 hM, km_37_21 hM, km_37_22 hM, km_37_23 hM, km_37_24 hM, km_37_25 hM, km_37_26 hM, km_37_27 hM, km_37_28 hM, km_37_29 hM, km_37_30 hM, km_37_31 hM, km_37_32 hM, kmo_37 hM, kma_38 hM, kma_39 hM, kma_40 hM, kma_41 hM, kma_42 hM, kma_43 hM, kma_44 hM, kma_45 hM, kma_46 hM, kma_47 hM, kma_48 hM, kma_49 hM, kma_50 hM, kma_52 hM, kma_53 hM, kma_54 hM, kma_55 hM, kma_56 hM, kma_51 hM, T_X7_isCell, T_X7_directions, T_X7_in, c1, c2, c3, c4, hv, up2_n (show ¬ 37 = 42 by decide), up2_n (show ¬ 37 = 43 by decide), up2_n (show ¬ 37 = 44 by decide), up2_n (show ¬ 37 = 45 by decide), up2_s, upd_s, upd_n (show ¬ 8 = 20 by decide)]
          exact hT2
      · have hT0 := hT0 (fun z => c3 z.2.2)
        simp only [sg_X7_ant_0, sg_X7_ant_32, sg_X7_ant_34, sg_X7_ant_46, cd_X7_ant, jwp, o_ic, o_lc, o_iload, o_lload, o_aload, o_istore, o_lstore, o_astore, o_iinc, o_pop, o_dup, o_dup2, o_iadd, o_isub, o_imul, o_iand, o_ior, o_ishl, o_ladd, o_lmul, o_land, o_lor, o_idiv, o_irem, o_ineg, o_i2l, o_l2i, o_i2b, o_i2s, o_lushr, o_lshr, o_lshl, o_lcmp, o_ifeq, o_ifne, o_iflt, o_ifge, o_ifgt, o_ifle, o_iceq, o_icne, o_iclt, o_icge, o_icgt, o_icle, o_goto, o_tsw, jsw, o_lsw, jlk, o_getf, o_putf, o_putz, o_iald, o_zald, o_iast, o_zast, o_aald, o_alen, o_gets, o_zld, o_zlen, o_cpy, o_call, o_callV, o_ireti, o_iretz, o_lret, o_vret, jg, js, jkp, jkill, jsp, jcs, jfw, jov, Value.category, Option.toList_some, Option.toList_none, List.nil_append, List.cons_append, List.append_nil, Nat.reduceAdd, true_and, and_true, jb0, jb01, jb1, jem, true_or, or_true, Classical.not_not, forall_const, List.length_cons, List.length_nil, Nat.reduceLeDiff, Nat.zero_le, Nat.reduceLT, and_self, not_true_eq_false, not_false_eq_true, false_imp_iff, true_imp_iff, implies_true, and_false, false_and, or_false, false_or, hM, km_37_0 hM, km_37_1 hM, km_37_2 hM, km_37_3 hM, km_37_4 hM, km_37_5 hM, km_37_6 hM, km_37_7 hM, km_37_8 hM, km_37_9 hM, km_37_10 hM, km_37_11 hM, km_37_12 hM, km_37_13 hM, km_37_14 hM, km_37_15 hM, km_37_16 hM, km_37_17 hM, km_37_18 hM, km_37_19 hM, km_37_20 hM, km_37_21 hM, km_37_22 hM, km_37_23 hM, km_37_24 hM, km_37_25 hM, km_37_26 hM, km_37_27 hM, km_37_28 hM, km_37_29 hM, km_37_30 hM, km_37_31 hM, km_37_32 hM, kmo_37 hM, kma_38 hM, kma_39 hM, kma_40 hM, kma_41 hM, kma_42 hM, kma_43 hM, kma_44 hM, kma_45 hM, kma_46 hM, kma_47 hM, kma_48 hM, kma_49 hM, kma_50 hM, kma_52 hM, kma_53 hM, kma_54 hM, kma_55 hM, kma_56 hM, kma_51 hM, T_X7_isCell, T_X7_directions, T_X7_in, c1, c2, c3]
        exact hT0
    · have hT0 := hT0 (fun z => c2 z.2.1)
      simp only [sg_X7_ant_0, sg_X7_ant_32, sg_X7_ant_34, sg_X7_ant_46, cd_X7_ant, jwp, o_ic, o_lc, o_iload, o_lload, o_aload, o_istore, o_lstore, o_astore, o_iinc, o_pop, o_dup, o_dup2, o_iadd, o_isub, o_imul, o_iand, o_ior, o_ishl, o_ladd, o_lmul, o_land, o_lor, o_idiv, o_irem, o_ineg, o_i2l, o_l2i, o_i2b, o_i2s, o_lushr, o_lshr, o_lshl, o_lcmp, o_ifeq, o_ifne, o_iflt, o_ifge, o_ifgt, o_ifle, o_iceq, o_icne, o_iclt, o_icge, o_icgt, o_icle, o_goto, o_tsw, jsw, o_lsw, jlk, o_getf, o_putf, o_putz, o_iald, o_zald, o_iast, o_zast, o_aald, o_alen, o_gets, o_zld, o_zlen, o_cpy, o_call, o_callV, o_ireti, o_iretz, o_lret, o_vret, jg, js, jkp, jkill, jsp, jcs, jfw, jov, Value.category, Option.toList_some, Option.toList_none, List.nil_append, List.cons_append, List.append_nil, Nat.reduceAdd, true_and, and_true, jb0, jb01, jb1, jem, true_or, or_true, Classical.not_not, forall_const, List.length_cons, List.length_nil, Nat.reduceLeDiff, Nat.zero_le, Nat.reduceLT, and_self, not_true_eq_false, not_false_eq_true, false_imp_iff, true_imp_iff, implies_true, and_false, false_and, or_false, false_or, hM, km_37_0 hM, km_37_1 hM, km_37_2 hM, km_37_3 hM, km_37_4 hM, km_37_5 hM, km_37_6 hM, km_37_7 hM, km_37_8 hM, km_37_9 hM, km_37_10 hM, km_37_11 hM, km_37_12 hM, km_37_13 hM, km_37_14 hM, km_37_15 hM, km_37_16 hM, km_37_17 hM, km_37_18 hM, km_37_19 hM, km_37_20 hM, km_37_21 hM, km_37_22 hM, km_37_23 hM, km_37_24 hM, km_37_25 hM, km_37_26 hM, km_37_27 hM, km_37_28 hM, km_37_29 hM, km_37_30 hM, km_37_31 hM, km_37_32 hM, kmo_37 hM, kma_38 hM, kma_39 hM, kma_40 hM, kma_41 hM, kma_42 hM, kma_43 hM, kma_44 hM, kma_45 hM, kma_46 hM, kma_47 hM, kma_48 hM, kma_49 hM, kma_50 hM, kma_52 hM, kma_53 hM, kma_54 hM, kma_55 hM, kma_56 hM, kma_51 hM, T_X7_isCell, T_X7_directions, T_X7_in, c1, c2]
      exact hT0
  · have hT0 := hT0 (fun z => c1 z.1)
    simp only [sg_X7_ant_0, sg_X7_ant_32, sg_X7_ant_34, sg_X7_ant_46, cd_X7_ant, jwp, o_ic, o_lc, o_iload, o_lload, o_aload, o_istore, o_lstore, o_astore, o_iinc, o_pop, o_dup, o_dup2, o_iadd, o_isub, o_imul, o_iand, o_ior, o_ishl, o_ladd, o_lmul, o_land, o_lor, o_idiv, o_irem, o_ineg, o_i2l, o_l2i, o_i2b, o_i2s, o_lushr, o_lshr, o_lshl, o_lcmp, o_ifeq, o_ifne, o_iflt, o_ifge, o_ifgt, o_ifle, o_iceq, o_icne, o_iclt, o_icge, o_icgt, o_icle, o_goto, o_tsw, jsw, o_lsw, jlk, o_getf, o_putf, o_putz, o_iald, o_zald, o_iast, o_zast, o_aald, o_alen, o_gets, o_zld, o_zlen, o_cpy, o_call, o_callV, o_ireti, o_iretz, o_lret, o_vret, jg, js, jkp, jkill, jsp, jcs, jfw, jov, Value.category, Option.toList_some, Option.toList_none, List.nil_append, List.cons_append, List.append_nil, Nat.reduceAdd, true_and, and_true, jb0, jb01, jb1, jem, true_or, or_true, Classical.not_not, forall_const, List.length_cons, List.length_nil, Nat.reduceLeDiff, Nat.zero_le, Nat.reduceLT, and_self, not_true_eq_false, not_false_eq_true, false_imp_iff, true_imp_iff, implies_true, and_false, false_and, or_false, false_or, hM, km_37_0 hM, km_37_1 hM, km_37_2 hM, km_37_3 hM, km_37_4 hM, km_37_5 hM, km_37_6 hM, km_37_7 hM, km_37_8 hM, km_37_9 hM, km_37_10 hM, km_37_11 hM, km_37_12 hM, km_37_13 hM, km_37_14 hM, km_37_15 hM, km_37_16 hM, km_37_17 hM, km_37_18 hM, km_37_19 hM, km_37_20 hM, km_37_21 hM, km_37_22 hM, km_37_23 hM, km_37_24 hM, km_37_25 hM, km_37_26 hM, km_37_27 hM, km_37_28 hM, km_37_29 hM, km_37_30 hM, km_37_31 hM, km_37_32 hM, kmo_37 hM, kma_38 hM, kma_39 hM, kma_40 hM, kma_41 hM, kma_42 hM, kma_43 hM, kma_44 hM, kma_45 hM, kma_46 hM, kma_47 hM, kma_48 hM, kma_49 hM, kma_50 hM, kma_52 hM, kma_53 hM, kma_54 hM, kma_55 hM, kma_56 hM, kma_51 hM, T_X7_isCell, T_X7_directions, T_X7_in, c1]
    exact hT0
theorem m_X7_ant (l : Launch) : jHolds vwCl l yX7_ant wsX7_ant 2 43 0 0 T_X7_ant := by
  refine m_X7_ant_of l (fun G Q vs K h H0 hT => ?_)
  unfold T_X7_ant at hT
  split at hT
  · obtain ⟨rfl, hT⟩ := hT
    exact ⟨Nat.le_of_ble_eq_true rfl, v_X7_ant hT H0⟩
  · exact hT.elim

/-! X7_type -/
/-- byte k of w, as the reference takes it -/
def jbyM (w : Int64) (k : Nat) : Int32 := (w >>> ((8 * nI k).toInt64 &&& 63) &&& 255).toInt32
def jtbM (h : jM) (w : Int64) (m t k : Nat) : jM := fun a i => if a = 41 ∧ t ≤ i ∧ i < t + (m - k) then jbyM w (m - 1 - (i - t)) else if a = 37 ∧ i = 7 then nI (t + (m - k)) else h a i
theorem jtbM_7 (h : jM) (w : Int64) (m t k : Nat) : jtbM h w m t k 37 7 = nI (t + (m - k)) := by
  unfold jtbM
  rw [if_neg (by omega), if_pos (by omega)]
theorem jtbM_0 (h : jM) (w : Int64) (m t : Nat) (ht : h 37 7 = nI t) : jtbM h w m t m = h := by
  funext a i
  unfold jtbM
  rw [if_neg (by omega)]
  by_cases c : a = 37 ∧ i = 7
  · rw [if_pos c, c.1, c.2, ht, Nat.sub_self, Nat.add_zero]
  · rw [if_neg c]
theorem jtbM_s (h : jM) (w : Int64) (m t k : Nat) (hk : k + 1 ≤ m) : up2 (up2 (jtbM h w m t (k + 1)) 41 (t + (m - (k + 1))) (jbyM w k)) 37 7 (nI (t + (m - (k + 1)) + 1)) = jtbM h w m t k := by
  funext a i
  by_cases h4 : a = 37
  · subst h4
    rw [up2_s, up2_n (by decide : ¬ 37 = 41)]
    by_cases hi : i = 7
    · subst hi
      rw [upd_s, jtbM_7]
      congr 1
      omega
    · rw [upd_n hi]
      unfold jtbM
      rw [if_neg (by omega), if_neg (by omega), if_neg (by omega), if_neg (by omega)]
  · rw [up2_n h4]
    by_cases h10 : a = 41
    · subst h10
      rw [up2_s]
      by_cases hi : i = t + (m - (k + 1))
      · subst hi
        rw [upd_s]
        unfold jtbM
        rw [if_pos (by omega)]
        congr 1
        omega
      · rw [upd_n hi]
        unfold jtbM
        by_cases hc : t ≤ i ∧ i < t + (m - (k + 1))
        · rw [if_pos (by omega), if_pos (by omega)]
        · rw [if_neg (by omega), if_neg (by omega), if_neg (by omega), if_neg (by omega)]
    · rw [up2_n h10]
      unfold jtbM
      rw [if_neg (by omega), if_neg (by omega), if_neg (by omega), if_neg (by omega)]
def T_X7_type : jT := fun vs K h Q => match vs with
  | [.ref r0, .long w, .int n] => r0 = 37 ∧ (jXM K ∧ (0 ≤ (h 37 7).toInt ∧ (h 37 7).toInt ≤ 12) ∧ (¬ (1 ≤ n ∧ n ≤ 8) → Q (some (.int (-1))) K h) ∧ (1 ≤ n ∧ n ≤ 8 → ¬ h 37 7 + n ≤ 12 → Q (some (.int (-3))) K h) ∧ (1 ≤ n ∧ n ≤ 8 → h 37 7 + n ≤ 12 → Q (some (.int (h 37 7 + n))) K (jtbM h w n.toInt.toNat (h 37 7).toInt.toNat 0)))
  | _ => False
def sg_X7_type_0 : jS := [(o_iload 3, 1), (o_ic (1), 1), (o_ic (8), 2), (o_call 3 T_X7_in, 3), (o_ifne 12, 3), (o_ic (-1), 1), (o_ireti, 1)]
def sg_X7_type_12 : jS := [(o_aload 0, 1), (o_getf 7 7, 3), (o_iload 3, 1), (o_iadd, 1), (o_ic (12), 2), (o_icle 26, 3), (o_ic (-3), 2), (o_ireti, 1)]
def sg_X7_type_26 : jS := [(o_iload 3, 1), (o_ic (1), 1), (o_isub, 1), (o_istore 4, 2)]
def sg_X7_type_31 : jS := [(o_iload 4, 2), (o_iflt 73, 3), (o_aload 0, 1), (o_getf 7 6, 3), (o_aload 0, 1), (o_getf 7 7, 3), (o_lload 1, 1), (o_ic (8), 2), (o_iload 4, 2), (o_imul, 1), (o_lshr, 1), (o_lc (255), 3), (o_land, 1), (o_l2i, 1), (o_iast, 1), (o_aload 0, 1), (o_dup, 1), (o_getf 7 7, 3), (o_ic (1), 1), (o_iadd, 1), (o_putf 7 7, 3), (o_iinc 4 (-1), 3), (o_goto 31, 3)]
def sg_X7_type_73 : jS := [(o_aload 0, 1), (o_getf 7 7, 3), (o_ireti, 1)]
def cd_X7_type : Nat → jS := fun t => match t with
  | 12 => sg_X7_type_12
  | 26 => sg_X7_type_26
  | 73 => sg_X7_type_73
  | _ => []
theorem wl_X7_type_24 : Cond.fieldLink RX7 24 (TX7 6).1 (TX7 6).2.1 (TX7 6).2.2.1 ∈ wsX7_type := by decide +kernel
theorem wl_X7_type_101 : Cond.fieldLink RX7 101 (TX7 7).1 (TX7 7).2.1 (TX7 7).2.2.1 ∈ wsX7_type := by decide +kernel
theorem wi_X7_type_X7 : ∀ w ∈ u_ws RX7 TX7 33, w ∈ wsX7_type := by decide +kernel
def E_X7_type (Γ : jΓ) (Q : jPost) : Prop := Γ.2.2.2.2.2.2.2.2.2.2.1 = 5 ∧ Γ.2.2.2.2.2.2.2.2.2.2.2.1 = vwCl ∧ jC Γ cX7_type RX7 "type" (some .int) wsX7_type 1 22 0 0 ∧ jR Γ Q 0 0
theorem oo_X7_type_0 {Γ : jΓ} {Q : jPost} (E : E_X7_type Γ Q) : jSA Γ Q 0 (o_iload 3) 1 := so_iload_n E.2.2.1 rfl dX7_type_0
theorem oo_X7_type_1 {Γ : jΓ} {Q : jPost} (E : E_X7_type Γ Q) : jSA Γ Q 1 (o_ic (1)) 1 := so_iconst E.2.2.1 rfl dX7_type_1
theorem oo_X7_type_2 {Γ : jΓ} {Q : jPost} (E : E_X7_type Γ Q) : jSA Γ Q 2 (o_ic (8)) 2 := so_bipush E.2.2.1 rfl dX7_type_2
theorem oo_X7_type_4 {Γ : jΓ} {Q : jPost} (E : E_X7_type Γ Q) : jSA Γ Q 4 (o_call 3 T_X7_in) 3 := so_callS E.2.2.1 gX7_type_X7_in (by decide +kernel) rfl (by rw [E.2.1]; exact m_X7_in _) (by decide) (by decide) dX7_type_4
theorem oo_X7_type_7 {Γ : jΓ} {Q : jPost} (E : E_X7_type Γ Q) : jSA Γ Q 7 (o_ifne 12) 3 := so_ifne E.2.2.1 (by decide) dX7_type_7
theorem oo_X7_type_10 {Γ : jΓ} {Q : jPost} (E : E_X7_type Γ Q) : jSA Γ Q 10 (o_ic (-1)) 1 := so_iconst E.2.2.1 rfl dX7_type_10
theorem oo_X7_type_11 {Γ : jΓ} {Q : jPost} (E : E_X7_type Γ Q) : jSA Γ Q 11 (o_ireti) 1 := so_ireti E.2.2.1 E.2.2.2 dX7_type_11
theorem oo_X7_type_12 {Γ : jΓ} {Q : jPost} (E : E_X7_type Γ Q) : jSA Γ Q 12 (o_aload 0) 1 := so_aload_n E.2.2.1 rfl dX7_type_12
theorem oo_X7_type_13 {Γ : jΓ} {Q : jPost} (E : E_X7_type Γ Q) : jSA Γ Q 13 (o_getf 7 7) 3 := so_getf (ci := 7) E.2.2.1 wi_X7_type_X7 (by rw [E.2.1]; rfl) 7 (by decide) wl_X7_type_101 dX7_type_13
theorem oo_X7_type_16 {Γ : jΓ} {Q : jPost} (E : E_X7_type Γ Q) : jSA Γ Q 16 (o_iload 3) 1 := so_iload_n E.2.2.1 rfl dX7_type_16
theorem oo_X7_type_17 {Γ : jΓ} {Q : jPost} (E : E_X7_type Γ Q) : jSA Γ Q 17 (o_iadd) 1 := so_iadd E.2.2.1 dX7_type_17
theorem oo_X7_type_18 {Γ : jΓ} {Q : jPost} (E : E_X7_type Γ Q) : jSA Γ Q 18 (o_ic (12)) 2 := so_bipush E.2.2.1 rfl dX7_type_18
theorem oo_X7_type_20 {Γ : jΓ} {Q : jPost} (E : E_X7_type Γ Q) : jSA Γ Q 20 (o_icle 26) 3 := so_icle E.2.2.1 (by decide) dX7_type_20
theorem oo_X7_type_23 {Γ : jΓ} {Q : jPost} (E : E_X7_type Γ Q) : jSA Γ Q 23 (o_ic (-3)) 2 := so_bipush E.2.2.1 rfl dX7_type_23
theorem oo_X7_type_25 {Γ : jΓ} {Q : jPost} (E : E_X7_type Γ Q) : jSA Γ Q 25 (o_ireti) 1 := so_ireti E.2.2.1 E.2.2.2 dX7_type_25
theorem oo_X7_type_26 {Γ : jΓ} {Q : jPost} (E : E_X7_type Γ Q) : jSA Γ Q 26 (o_iload 3) 1 := so_iload_n E.2.2.1 rfl dX7_type_26
theorem oo_X7_type_27 {Γ : jΓ} {Q : jPost} (E : E_X7_type Γ Q) : jSA Γ Q 27 (o_ic (1)) 1 := so_iconst E.2.2.1 rfl dX7_type_27
theorem oo_X7_type_28 {Γ : jΓ} {Q : jPost} (E : E_X7_type Γ Q) : jSA Γ Q 28 (o_isub) 1 := so_isub E.2.2.1 dX7_type_28
theorem oo_X7_type_29 {Γ : jΓ} {Q : jPost} (E : E_X7_type Γ Q) : jSA Γ Q 29 (o_istore 4) 2 := so_istore E.2.2.1 (by rw [E.1]; decide) dX7_type_29
theorem oo_X7_type_31 {Γ : jΓ} {Q : jPost} (E : E_X7_type Γ Q) : jSA Γ Q 31 (o_iload 4) 2 := so_iload E.2.2.1 dX7_type_31
theorem oo_X7_type_33 {Γ : jΓ} {Q : jPost} (E : E_X7_type Γ Q) : jSA Γ Q 33 (o_iflt 73) 3 := so_iflt E.2.2.1 (by decide) dX7_type_33
theorem oo_X7_type_36 {Γ : jΓ} {Q : jPost} (E : E_X7_type Γ Q) : jSA Γ Q 36 (o_aload 0) 1 := so_aload_n E.2.2.1 rfl dX7_type_36
theorem oo_X7_type_37 {Γ : jΓ} {Q : jPost} (E : E_X7_type Γ Q) : jSA Γ Q 37 (o_getf 7 6) 3 := so_getf (ci := 7) E.2.2.1 wi_X7_type_X7 (by rw [E.2.1]; rfl) 6 (by decide) wl_X7_type_24 dX7_type_37
theorem oo_X7_type_40 {Γ : jΓ} {Q : jPost} (E : E_X7_type Γ Q) : jSA Γ Q 40 (o_aload 0) 1 := so_aload_n E.2.2.1 rfl dX7_type_40
theorem oo_X7_type_41 {Γ : jΓ} {Q : jPost} (E : E_X7_type Γ Q) : jSA Γ Q 41 (o_getf 7 7) 3 := so_getf (ci := 7) E.2.2.1 wi_X7_type_X7 (by rw [E.2.1]; rfl) 7 (by decide) wl_X7_type_101 dX7_type_41
theorem oo_X7_type_44 {Γ : jΓ} {Q : jPost} (E : E_X7_type Γ Q) : jSA Γ Q 44 (o_lload 1) 1 := so_lload_n E.2.2.1 rfl dX7_type_44
theorem oo_X7_type_45 {Γ : jΓ} {Q : jPost} (E : E_X7_type Γ Q) : jSA Γ Q 45 (o_ic (8)) 2 := so_bipush E.2.2.1 rfl dX7_type_45
theorem oo_X7_type_47 {Γ : jΓ} {Q : jPost} (E : E_X7_type Γ Q) : jSA Γ Q 47 (o_iload 4) 2 := so_iload E.2.2.1 dX7_type_47
theorem oo_X7_type_49 {Γ : jΓ} {Q : jPost} (E : E_X7_type Γ Q) : jSA Γ Q 49 (o_imul) 1 := so_imul E.2.2.1 dX7_type_49
theorem oo_X7_type_50 {Γ : jΓ} {Q : jPost} (E : E_X7_type Γ Q) : jSA Γ Q 50 (o_lshr) 1 := so_lshr E.2.2.1 dX7_type_50
theorem oo_X7_type_51 {Γ : jΓ} {Q : jPost} (E : E_X7_type Γ Q) : jSA Γ Q 51 (o_lc (255)) 3 := so_ldc2 E.2.2.1 (by decide +kernel) dX7_type_51
theorem oo_X7_type_54 {Γ : jΓ} {Q : jPost} (E : E_X7_type Γ Q) : jSA Γ Q 54 (o_land) 1 := so_land E.2.2.1 dX7_type_54
theorem oo_X7_type_55 {Γ : jΓ} {Q : jPost} (E : E_X7_type Γ Q) : jSA Γ Q 55 (o_l2i) 1 := so_l2i E.2.2.1 dX7_type_55
theorem oo_X7_type_56 {Γ : jΓ} {Q : jPost} (E : E_X7_type Γ Q) : jSA Γ Q 56 (o_iast) 1 := so_iast E.2.2.1 dX7_type_56
theorem oo_X7_type_57 {Γ : jΓ} {Q : jPost} (E : E_X7_type Γ Q) : jSA Γ Q 57 (o_aload 0) 1 := so_aload_n E.2.2.1 rfl dX7_type_57
theorem oo_X7_type_58 {Γ : jΓ} {Q : jPost} (E : E_X7_type Γ Q) : jSA Γ Q 58 (o_dup) 1 := so_dup E.2.2.1 dX7_type_58
theorem oo_X7_type_59 {Γ : jΓ} {Q : jPost} (E : E_X7_type Γ Q) : jSA Γ Q 59 (o_getf 7 7) 3 := so_getf (ci := 7) E.2.2.1 wi_X7_type_X7 (by rw [E.2.1]; rfl) 7 (by decide) wl_X7_type_101 dX7_type_59
theorem oo_X7_type_62 {Γ : jΓ} {Q : jPost} (E : E_X7_type Γ Q) : jSA Γ Q 62 (o_ic (1)) 1 := so_iconst E.2.2.1 rfl dX7_type_62
theorem oo_X7_type_63 {Γ : jΓ} {Q : jPost} (E : E_X7_type Γ Q) : jSA Γ Q 63 (o_iadd) 1 := so_iadd E.2.2.1 dX7_type_63
theorem oo_X7_type_64 {Γ : jΓ} {Q : jPost} (E : E_X7_type Γ Q) : jSA Γ Q 64 (o_putf 7 7) 3 := so_putf (ci := 7) E.2.2.1 tyX7 tyX7_ok nmX7 wi_X7_type_X7 (by rw [E.2.1]; rfl) 7 (by decide) wl_X7_type_101 rfl (by decide +kernel) dX7_type_64
theorem oo_X7_type_67 {Γ : jΓ} {Q : jPost} (E : E_X7_type Γ Q) : jSA Γ Q 67 (o_iinc 4 (-1)) 3 := so_iinc E.2.2.1 rfl (by rw [E.1]; decide) dX7_type_67
theorem oo_X7_type_70 {Γ : jΓ} {Q : jPost} (E : E_X7_type Γ Q) : jSA Γ Q 70 (o_goto 31) 3 := so_goto E.2.2.1 (by decide) dX7_type_70
theorem oo_X7_type_73 {Γ : jΓ} {Q : jPost} (E : E_X7_type Γ Q) : jSA Γ Q 73 (o_aload 0) 1 := so_aload_n E.2.2.1 rfl dX7_type_73
theorem oo_X7_type_74 {Γ : jΓ} {Q : jPost} (E : E_X7_type Γ Q) : jSA Γ Q 74 (o_getf 7 7) 3 := so_getf (ci := 7) E.2.2.1 wi_X7_type_X7 (by rw [E.2.1]; rfl) 7 (by decide) wl_X7_type_101 dX7_type_74
theorem oo_X7_type_77 {Γ : jΓ} {Q : jPost} (E : E_X7_type Γ Q) : jSA Γ Q 77 (o_ireti) 1 := so_ireti E.2.2.1 E.2.2.2 dX7_type_77
theorem ok_X7_type_0 {Γ : jΓ} {Q : jPost} (E : E_X7_type Γ Q) : jSS Γ Q 0 sg_X7_type_0 := ⟨oo_X7_type_0 E, oo_X7_type_1 E, oo_X7_type_2 E, oo_X7_type_4 E, oo_X7_type_7 E, oo_X7_type_10 E, oo_X7_type_11 E, trivial⟩
theorem ok_X7_type_12 {Γ : jΓ} {Q : jPost} (E : E_X7_type Γ Q) : jSS Γ Q 12 sg_X7_type_12 := ⟨oo_X7_type_12 E, oo_X7_type_13 E, oo_X7_type_16 E, oo_X7_type_17 E, oo_X7_type_18 E, oo_X7_type_20 E, oo_X7_type_23 E, oo_X7_type_25 E, trivial⟩
theorem ok_X7_type_26 {Γ : jΓ} {Q : jPost} (E : E_X7_type Γ Q) : jSS Γ Q 26 sg_X7_type_26 := ⟨oo_X7_type_26 E, oo_X7_type_27 E, oo_X7_type_28 E, oo_X7_type_29 E, trivial⟩
theorem ok_X7_type_31 {Γ : jΓ} {Q : jPost} (E : E_X7_type Γ Q) : jSS Γ Q 31 sg_X7_type_31 := ⟨oo_X7_type_31 E, oo_X7_type_33 E, oo_X7_type_36 E, oo_X7_type_37 E, oo_X7_type_40 E, oo_X7_type_41 E, oo_X7_type_44 E, oo_X7_type_45 E, oo_X7_type_47 E, oo_X7_type_49 E, oo_X7_type_50 E, oo_X7_type_51 E, oo_X7_type_54 E, oo_X7_type_55 E, oo_X7_type_56 E, oo_X7_type_57 E, oo_X7_type_58 E, oo_X7_type_59 E, oo_X7_type_62 E, oo_X7_type_63 E, oo_X7_type_64 E, oo_X7_type_67 E, oo_X7_type_70 E, trivial⟩
theorem ok_X7_type_73 {Γ : jΓ} {Q : jPost} (E : E_X7_type Γ Q) : jSS Γ Q 73 sg_X7_type_73 := ⟨oo_X7_type_73 E, oo_X7_type_74 E, oo_X7_type_77 E, trivial⟩
theorem okc_X7_type {Γ : jΓ} {Q : jPost} (E : E_X7_type Γ Q) (t : Nat) : jSS Γ Q t (cd_X7_type t) := by
  unfold cd_X7_type
  split
  · exact ok_X7_type_12 E
  · exact ok_X7_type_26 E
  · exact ok_X7_type_73 E
  · trivial
theorem m_X7_type_of (l : Launch) (hv : ∀ (G : jGt) (Q : jPost) (vs : List Value) (K : List jK) (h : jM), jHd cd_X7_type G Q sg_X7_type_0 0 → jHd cd_X7_type G Q sg_X7_type_31 31 → T_X7_type vs K h Q → (lg_sl vs).length ≤ 5 ∧ G 0 (jinit vs 5) [] K h 0 0) : jHolds vwCl l yX7_type wsX7_type 1 22 0 0 T_X7_type := by
  refine jMet (cc := cX7_type) (maxL := 5) (rt := (some .int)) (by decide +kernel) rfl (fun Γ Q vs K h hl hn hcl C hR hT => hv (jG Γ) Q vs K h ?_ ?_ hT)
  · exact fun n L st K h ce sl => jwp_ok (okc_X7_type ⟨hn, hcl, C, hR⟩) n sg_X7_type_0 0 (ok_X7_type_0 ⟨hn, hcl, C, hR⟩) L st K h ce sl
  · exact fun n L st K h ce sl => jwp_ok (okc_X7_type ⟨hn, hcl, C, hR⟩) n sg_X7_type_31 31 (ok_X7_type_31 ⟨hn, hcl, C, hR⟩) L st K h ce sl
set_option maxHeartbeats 4000000 in
set_option maxRecDepth 100000 in
theorem v_X7_type {G : jGt} {Q : jPost} {K : List jK} {h : jM} {w : Int64} {n : Int32} (hT : jXM K ∧ (0 ≤ (h 37 7).toInt ∧ (h 37 7).toInt ≤ 12) ∧ (¬ (1 ≤ n ∧ n ≤ 8) → Q (some (.int (-1))) K h) ∧ (1 ≤ n ∧ n ≤ 8 → ¬ h 37 7 + n ≤ 12 → Q (some (.int (-3))) K h) ∧ (1 ≤ n ∧ n ≤ 8 → h 37 7 + n ≤ 12 → Q (some (.int (h 37 7 + n))) K (jtbM h w n.toInt.toNat (h 37 7).toInt.toNat 0))) (H0 : jHd cd_X7_type G Q sg_X7_type_0 0) (H31 : jHd cd_X7_type G Q sg_X7_type_31 31) : G 0 [some (.ref 37), some (.long w), none, some (.int n), none] [] K h 0 0 := by
  obtain ⟨hM, ⟨ht0, ht1⟩, hT0, hT1, hT2⟩ := hT
  by_cases c1 : 1 ≤ n ∧ n ≤ 8
  · have hn0 : (1 : Int) ≤ n.toInt := le_of_lit c1.1
    have hn1 : n.toInt ≤ (8 : Int) := le_of_lit c1.2
    by_cases c2 : h 37 7 + n ≤ 12
    · have hT2 := hT2 c1 c2
      have c2' := c2
      obtain ⟨m, hm, rfl⟩ : ∃ m, m ≤ 8 ∧ n = nI m := jnat (by omega) (by omega)
      obtain ⟨t, ht, ht2⟩ : ∃ t, t ≤ 12 ∧ h 37 7 = nI t := jnat (by omega) (by omega)
      have c3 : (h 37 7 + nI m).toInt ≤ (12 : Int) := le_of_lit c2
      rw [ht2, nI_add, nI_toInt (by omega)] at c3
      rw [ht2] at hT2
      rw [nI_toInt (by omega), nI_toInt (by omega)] at hT2
      simp only [Int.toNat_natCast] at hT2
      have loop : ∀ k, k ≤ m → G 31 [some (.ref 37), some (.long w), none, some (.int (nI m)), some (.int (nI k + -1))] [] K (jtbM h w m t k) 0 0 := by
        intro k
        induction k with
        | zero =>
          intro hk
          rw [nI_neg1]
          refine H31 40 _ _ _ _ _ _ ?_
          simp only [sg_X7_type_0, sg_X7_type_12, sg_X7_type_26, sg_X7_type_31, sg_X7_type_73, cd_X7_type, jwp, o_ic, o_lc, o_iload, o_lload, o_aload, o_istore, o_lstore, o_astore, o_iinc, o_pop, o_dup, o_dup2, o_iadd, o_isub, o_imul, o_iand, o_ior, o_ishl, o_ladd, o_lmul, o_land, o_lor, o_idiv, o_irem, o_ineg, o_i2l, o_l2i, o_i2b, o_i2s, o_lushr, o_lshr, o_lshl, o_lcmp, o_ifeq, o_ifne, o_iflt, o_ifge, o_ifgt, o_ifle, o_iceq, o_icne, o_iclt, o_icge, o_icgt, o_icle, o_goto, o_tsw, jsw, o_lsw, jlk, o_getf, o_putf, o_putz, o_iald, o_zald, o_iast, o_zast, o_aald, o_alen, o_gets, o_zld, o_zlen, o_cpy, o_call, o_callV, o_ireti, o_iretz, o_lret, o_vret, jg, js, jkp, jkill, jsp, jcs, jfw, jov, Value.category, Option.toList_some, Option.toList_none, List.nil_append, List.cons_append, List.append_nil, Nat.reduceAdd, true_and, and_true, jb0, jb01, jb1, jem, true_or, or_true, Classical.not_not, forall_const, List.length_cons, List.length_nil, Nat.reduceLeDiff, Nat.zero_le, Nat.reduceLT, hM, km_37_0 hM, km_37_1 hM, km_37_2 hM, km_37_3 hM, km_37_4 hM, km_37_5 hM, km_37_6 hM, km_37_7 hM, km_37_8 hM, km_37_9 hM, km_37_10 hM, km_37_11 hM, km_37_12 hM, km_37_13 hM, km_37_14 hM, km_37_15 hM, km_37_16 hM, km_37_17 hM, km_37_18 hM, km_37_19 hM, km_37_20 hM, km_37_21 hM, km_37_22 hM, km_37_23 hM, km_37_24 hM, km_37_25 hM, km_37_26 hM, km_37_27 hM, km_37_28 hM, km_37_29 hM, km_37_30 hM, km_37_31 hM, km_37_32 hM, kmo_37 hM, kma_38 hM, kma_39 hM, kma_40 hM, kma_41 hM, kma_42 hM, kma_43 hM, kma_44 hM, kma_45 hM, kma_46 hM, kma_47 hM, kma_48 hM, kma_49 hM, kma_50 hM, kma_52 hM, kma_53 hM, kma_54 hM, kma_55 hM, kma_56 hM, kma_51 hM]
          refine ⟨fun _ => ?_, fun q => absurd (by decide) q⟩
          rw [jtbM_7, Nat.sub_zero, ← nI_add]
          exact hT2
        | succ k ih =>
          intro hk
          rw [nI_m1]
          refine H31 60 _ _ _ _ _ _ ?_
          simp only [sg_X7_type_0, sg_X7_type_12, sg_X7_type_26, sg_X7_type_31, sg_X7_type_73, cd_X7_type, jwp, o_ic, o_lc, o_iload, o_lload, o_aload, o_istore, o_lstore, o_astore, o_iinc, o_pop, o_dup, o_dup2, o_iadd, o_isub, o_imul, o_iand, o_ior, o_ishl, o_ladd, o_lmul, o_land, o_lor, o_idiv, o_irem, o_ineg, o_i2l, o_l2i, o_i2b, o_i2s, o_lushr, o_lshr, o_lshl, o_lcmp, o_ifeq, o_ifne, o_iflt, o_ifge, o_ifgt, o_ifle, o_iceq, o_icne, o_iclt, o_icge, o_icgt, o_icle, o_goto, o_tsw, jsw, o_lsw, jlk, o_getf, o_putf, o_putz, o_iald, o_zald, o_iast, o_zast, o_aald, o_alen, o_gets, o_zld, o_zlen, o_cpy, o_call, o_callV, o_ireti, o_iretz, o_lret, o_vret, jg, js, jkp, jkill, jsp, jcs, jfw, jov, Value.category, Option.toList_some, Option.toList_none, List.nil_append, List.cons_append, List.append_nil, Nat.reduceAdd, true_and, and_true, jb0, jb01, jb1, jem, true_or, or_true, Classical.not_not, forall_const, List.length_cons, List.length_nil, Nat.reduceLeDiff, Nat.zero_le, Nat.reduceLT, hM, km_37_0 hM, km_37_1 hM, km_37_2 hM, km_37_3 hM, km_37_4 hM, km_37_5 hM, km_37_6 hM, km_37_7 hM, km_37_8 hM, km_37_9 hM, km_37_10 hM, km_37_11 hM, km_37_12 hM, km_37_13 hM, km_37_14 hM, km_37_15 hM, km_37_16 hM, km_37_17 hM, km_37_18 hM, km_37_19 hM, km_37_20 hM, km_37_21 hM, km_37_22 hM, km_37_23 hM, km_37_24 hM, km_37_25 hM, km_37_26 hM, km_37_27 hM, km_37_28 hM, km_37_29 hM, km_37_30 hM, km_37_31 hM, km_37_32 hM, kmo_37 hM, kma_38 hM, kma_39 hM, kma_40 hM, kma_41 hM, kma_42 hM, kma_43 hM, kma_44 hM, kma_45 hM, kma_46 hM, kma_47 hM, kma_48 hM, kma_49 hM, kma_50 hM, kma_52 hM, kma_53 hM, kma_54 hM, kma_55 hM, kma_56 hM, kma_51 hM]
          have h2 := ih (by omega)
          refine ⟨fun q => absurd q (nI_pos (by omega)), fun _ => ?_⟩
          rw [jtbM_7]
          refine ⟨vp_in_nI (by omega) (by decide), ?_⟩
          rw [nI_clamp (by omega), up2_n (by decide : ¬ 37 = 41), jtbM_7, nI_1]
          have e := jtbM_s h w m t k (by omega)
          unfold jbyM at e
          rw [e]
          exact h2
      refine H0 40 _ _ _ _ _ _ ?_
      simp only [sg_X7_type_0, sg_X7_type_12, sg_X7_type_26, sg_X7_type_31, sg_X7_type_73, cd_X7_type, jwp, o_ic, o_lc, o_iload, o_lload, o_aload, o_istore, o_lstore, o_astore, o_iinc, o_pop, o_dup, o_dup2, o_iadd, o_isub, o_imul, o_iand, o_ior, o_ishl, o_ladd, o_lmul, o_land, o_lor, o_idiv, o_irem, o_ineg, o_i2l, o_l2i, o_i2b, o_i2s, o_lushr, o_lshr, o_lshl, o_lcmp, o_ifeq, o_ifne, o_iflt, o_ifge, o_ifgt, o_ifle, o_iceq, o_icne, o_iclt, o_icge, o_icgt, o_icle, o_goto, o_tsw, jsw, o_lsw, jlk, o_getf, o_putf, o_putz, o_iald, o_zald, o_iast, o_zast, o_aald, o_alen, o_gets, o_zld, o_zlen, o_cpy, o_call, o_callV, o_ireti, o_iretz, o_lret, o_vret, jg, js, jkp, jkill, jsp, jcs, jfw, jov, Value.category, Option.toList_some, Option.toList_none, List.nil_append, List.cons_append, List.append_nil, Nat.reduceAdd, true_and, and_true, jb0, jb01, jb1, jem, true_or, or_true, Classical.not_not, forall_const, List.length_cons, List.length_nil, Nat.reduceLeDiff, Nat.zero_le, Nat.reduceLT, and_self, not_true_eq_false, not_false_eq_true, false_imp_iff, true_imp_iff, implies_true, and_false, false_and, or_false, false_or, hM, km_37_0 hM, km_37_1 hM, km_37_2 hM, km_37_3 hM, km_37_4 hM, km_37_5 hM, km_37_6 hM, km_37_7 hM, km_37_8 hM, km_37_9 hM, km_37_10 hM, km_37_11 hM, km_37_12 hM, km_37_13 hM, km_37_14 hM, km_37_15 hM, km_37_16 hM, km_37_17 hM, km_37_18 hM, km_37_19 hM, km_37_20 hM, km_37_21 hM, km_37_22 hM, km_37_23 hM, km_37_24 hM, km_37_25 hM, km_37_26 hM, km_37_27 hM, km_37_28 hM, km_37_29 hM, km_37_30 hM, km_37_31 hM, km_37_32 hM, kmo_37 hM, kma_38 hM, kma_39 hM, kma_40 hM, kma_41 hM, kma_42 hM, kma_43 hM, kma_44 hM, kma_45 hM, kma_46 hM, kma_47 hM, kma_48 hM, kma_49 hM, kma_50 hM, kma_52 hM, kma_53 hM, kma_54 hM, kma_55 hM, kma_56 hM, kma_51 hM, T_X7_in, c1, c2']
      have h2 := loop m (by omega)
      rw [jtbM_0 h w m t ht2] at h2
      rw [show nI m - 1 = nI m + -1 from Int32.sub_eq_add_neg _ _]
      exact h2
    · have hT1 := hT1 c1 c2
      refine H0 40 _ _ _ _ _ _ ?_
      simp only [sg_X7_type_0, sg_X7_type_12, sg_X7_type_26, sg_X7_type_31, sg_X7_type_73, cd_X7_type, jwp, o_ic, o_lc, o_iload, o_lload, o_aload, o_istore, o_lstore, o_astore, o_iinc, o_pop, o_dup, o_dup2, o_iadd, o_isub, o_imul, o_iand, o_ior, o_ishl, o_ladd, o_lmul, o_land, o_lor, o_idiv, o_irem, o_ineg, o_i2l, o_l2i, o_i2b, o_i2s, o_lushr, o_lshr, o_lshl, o_lcmp, o_ifeq, o_ifne, o_iflt, o_ifge, o_ifgt, o_ifle, o_iceq, o_icne, o_iclt, o_icge, o_icgt, o_icle, o_goto, o_tsw, jsw, o_lsw, jlk, o_getf, o_putf, o_putz, o_iald, o_zald, o_iast, o_zast, o_aald, o_alen, o_gets, o_zld, o_zlen, o_cpy, o_call, o_callV, o_ireti, o_iretz, o_lret, o_vret, jg, js, jkp, jkill, jsp, jcs, jfw, jov, Value.category, Option.toList_some, Option.toList_none, List.nil_append, List.cons_append, List.append_nil, Nat.reduceAdd, true_and, and_true, jb0, jb01, jb1, jem, true_or, or_true, Classical.not_not, forall_const, List.length_cons, List.length_nil, Nat.reduceLeDiff, Nat.zero_le, Nat.reduceLT, and_self, not_true_eq_false, not_false_eq_true, false_imp_iff, true_imp_iff, implies_true, and_false, false_and, or_false, false_or, hM, km_37_0 hM, km_37_1 hM, km_37_2 hM, km_37_3 hM, km_37_4 hM, km_37_5 hM, km_37_6 hM, km_37_7 hM, km_37_8 hM, km_37_9 hM, km_37_10 hM, km_37_11 hM, km_37_12 hM, km_37_13 hM, km_37_14 hM, km_37_15 hM, km_37_16 hM, km_37_17 hM, km_37_18 hM, km_37_19 hM, km_37_20 hM, km_37_21 hM, km_37_22 hM, km_37_23 hM, km_37_24 hM, km_37_25 hM, km_37_26 hM, km_37_27 hM, km_37_28 hM, km_37_29 hM, km_37_30 hM, km_37_31 hM, km_37_32 hM, kmo_37 hM, kma_38 hM, kma_39 hM, kma_40 hM, kma_41 hM, kma_42 hM, kma_43 hM, kma_44 hM, kma_45 hM, kma_46 hM, kma_47 hM, kma_48 hM, kma_49 hM, kma_50 hM, kma_52 hM, kma_53 hM, kma_54 hM, kma_55 hM, kma_56 hM, kma_51 hM, T_X7_in, c1, c2]
      exact hT1
  · have hT0 := hT0 c1
    refine H0 40 _ _ _ _ _ _ ?_
    simp only [sg_X7_type_0, sg_X7_type_12, sg_X7_type_26, sg_X7_type_31, sg_X7_type_73, cd_X7_type, jwp, o_ic, o_lc, o_iload, o_lload, o_aload, o_istore, o_lstore, o_astore, o_iinc, o_pop, o_dup, o_dup2, o_iadd, o_isub, o_imul, o_iand, o_ior, o_ishl, o_ladd, o_lmul, o_land, o_lor, o_idiv, o_irem, o_ineg, o_i2l, o_l2i, o_i2b, o_i2s, o_lushr, o_lshr, o_lshl, o_lcmp, o_ifeq, o_ifne, o_iflt, o_ifge, o_ifgt, o_ifle, o_iceq, o_icne, o_iclt, o_icge, o_icgt, o_icle, o_goto, o_tsw, jsw, o_lsw, jlk, o_getf, o_putf, o_putz, o_iald, o_zald, o_iast, o_zast, o_aald, o_alen, o_gets, o_zld, o_zlen, o_cpy, o_call, o_callV, o_ireti, o_iretz, o_lret, o_vret, jg, js, jkp, jkill, jsp, jcs, jfw, jov, Value.category, Option.toList_some, Option.toList_none, List.nil_append, List.cons_append, List.append_nil, Nat.reduceAdd, true_and, and_true, jb0, jb01, jb1, jem, true_or, or_true, Classical.not_not, forall_const, List.length_cons, List.length_nil, Nat.reduceLeDiff, Nat.zero_le, Nat.reduceLT, and_self, not_true_eq_false, not_false_eq_true, false_imp_iff, true_imp_iff, implies_true, and_false, false_and, or_false, false_or, hM, km_37_0 hM, km_37_1 hM, km_37_2 hM, km_37_3 hM, km_37_4 hM, km_37_5 hM, km_37_6 hM, km_37_7 hM, km_37_8 hM, km_37_9 hM, km_37_10 hM, km_37_11 hM, km_37_12 hM, km_37_13 hM, km_37_14 hM, km_37_15 hM, km_37_16 hM, km_37_17 hM, km_37_18 hM, km_37_19 hM, km_37_20 hM, km_37_21 hM, km_37_22 hM, km_37_23 hM, km_37_24 hM, km_37_25 hM, km_37_26 hM, km_37_27 hM, km_37_28 hM, km_37_29 hM, km_37_30 hM, km_37_31 hM, km_37_32 hM, kmo_37 hM, kma_38 hM, kma_39 hM, kma_40 hM, kma_41 hM, kma_42 hM, kma_43 hM, kma_44 hM, kma_45 hM, kma_46 hM, kma_47 hM, kma_48 hM, kma_49 hM, kma_50 hM, kma_52 hM, kma_53 hM, kma_54 hM, kma_55 hM, kma_56 hM, kma_51 hM, T_X7_in, c1]
    exact hT0
theorem m_X7_type (l : Launch) : jHolds vwCl l yX7_type wsX7_type 1 22 0 0 T_X7_type := by
  refine m_X7_type_of l (fun G Q vs K h H0 H31 hT => ?_)
  unfold T_X7_type at hT
  split at hT
  · obtain ⟨rfl, hT⟩ := hT
    exact ⟨Nat.le_of_ble_eq_true rfl, v_X7_type hT H0 H31⟩
  · exact hT.elim

/-! X7_floor -/
/-- the reference's rules anew: r rows whole, of the next c letters -/
def mRst (h : jM) (r c : Nat) : jM := fun a i => if a = 40 ∧ i < 12 * r + c then (if i % 2 = 0 then 1 else jdM h - 1) else h a i
theorem mRst_o (h : jM) (r c : Nat) {a : Nat} (ha : ¬ a = 40) : mRst h r c a = h a := by
  funext i
  unfold mRst
  rw [if_neg (fun q => ha q.1)]
theorem mRst_0 (h : jM) : mRst h 0 0 = h := by
  funext a i
  unfold mRst
  rw [if_neg (by omega)]
theorem mRst_row (h : jM) (r : Nat) : mRst h (r + 1) 0 = mRst h r 12 := by
  funext a i
  unfold mRst
  by_cases c : a = 40 ∧ i < 12 * r + 12
  · rw [if_pos c, if_pos (by omega)]
  · rw [if_neg c, if_neg (by omega)]
theorem mRst_s (h : jM) (r c : Nat) (hc : c < 12) : up2 (mRst h r c) 40 (12 * r + c) (if c % 2 = 0 then 1 else jdM h - 1) = mRst h r (c + 1) := by
  funext a i
  by_cases ha : a = 40
  · subst ha
    rw [up2_s]
    by_cases hi : i = 12 * r + c
    · subst hi
      rw [upd_s]
      unfold mRst
      rw [if_pos (show 40 = 40 ∧ 12 * r + c < 12 * r + (c + 1) from ⟨rfl, by omega⟩)]
      have e : (12 * r + c) % 2 = c % 2 := by omega
      rw [e]
    · rw [upd_n hi]
      unfold mRst
      by_cases h1 : i < 12 * r + c
      · rw [if_pos (show 40 = 40 ∧ i < 12 * r + c from ⟨rfl, h1⟩), if_pos (show 40 = 40 ∧ i < 12 * r + (c + 1) from ⟨rfl, by omega⟩)]
      · rw [if_neg (show ¬ (40 = 40 ∧ i < 12 * r + c) from fun q => h1 q.2), if_neg (show ¬ (40 = 40 ∧ i < 12 * r + (c + 1)) from fun q => by omega)]
  · rw [up2_n ha, mRst_o _ _ _ ha, mRst_o _ _ _ ha]
def mFloor (h : jM) (k n : Int32) : jM :=
  let g := up2 (up2 h 37 0 k) 37 1 n
  let g2 := upr (upr g 38 (jfill 57600 0 (g 38))) 39 (jfill 57600 0 (g 39))
  up2 (up2 (up2 (up2 (mRst g2 4 0) 37 8 0) 37 4 0) 37 14 0) 37 19 0
def T_X7_floor : jT := fun vs K h Q => match vs with
  | [.ref r0, .int k, .int n] => r0 = 37 ∧ (jXM K ∧ (¬ ((0 ≤ k ∧ k ≤ 1) ∧ 2 ≤ n ∧ n ≤ 12) → Q (some (.int (-1))) K h) ∧ ((0 ≤ k ∧ k ≤ 1) ∧ 2 ≤ n ∧ n ≤ 12 → Q (some (.int (h 37 8))) K (mFloor h k n)))
  | _ => False
def sg_X7_floor_0 : jS := [(o_iload 1, 1), (o_ic (0), 1), (o_ic (1), 1), (o_call 3 T_X7_in, 3), (o_ifeq 19, 3), (o_iload 2, 1), (o_ic (2), 1), (o_ic (12), 2), (o_call 3 T_X7_in, 3), (o_ifne 21, 3), (o_ic (-1), 1), (o_ireti, 1)]
def sg_X7_floor_19 : jS := [(o_ic (-1), 1), (o_ireti, 1)]
def sg_X7_floor_21 : jS := [(o_aload 0, 1), (o_getf 7 8, 3), (o_istore 3, 1), (o_aload 0, 1), (o_iload 1, 1), (o_putf 7 0, 3), (o_aload 0, 1), (o_iload 2, 1), (o_putf 7 1, 3), (o_ic (0), 1), (o_istore 4, 2)]
def sg_X7_floor_39 : jS := [(o_iload 4, 2), (o_ic (57600), 2), (o_icge 68, 3), (o_aload 0, 1), (o_getf 7 2, 3), (o_iload 4, 2), (o_ic (0), 1), (o_iast, 1), (o_aload 0, 1), (o_getf 7 3, 3), (o_iload 4, 2), (o_ic (0), 1), (o_iast, 1), (o_iinc 4 (1), 3), (o_goto 39, 3)]
def sg_X7_floor_68 : jS := [(o_ic (0), 1), (o_istore 4, 2)]
def sg_X7_floor_71 : jS := [(o_iload 4, 2), (o_ic (4), 1), (o_icge 129, 3), (o_ic (0), 1), (o_istore 5, 2)]
def sg_X7_floor_80 : jS := [(o_iload 5, 2), (o_ic (12), 2), (o_icge 123, 3), (o_aload 0, 1), (o_getf 7 5, 3), (o_ic (12), 2), (o_iload 4, 2), (o_imul, 1), (o_iload 5, 2), (o_iadd, 1), (o_iload 5, 2), (o_ic (2), 1), (o_irem, 1), (o_ifne 110, 3), (o_ic (1), 1), (o_goto 116, 3)]
def sg_X7_floor_110 : jS := [(o_aload 0, 1), (o_callV 1 7 T_X7_directions, 3), (o_ic (1), 1), (o_isub, 1), (o_iast, 1), (o_iinc 5 (1), 3), (o_goto 80, 3)]
def sg_X7_floor_116 : jS := [(o_iast, 1), (o_iinc 5 (1), 3), (o_goto 80, 3)]
def sg_X7_floor_123 : jS := [(o_iinc 4 (1), 3), (o_goto 71, 3)]
def sg_X7_floor_129 : jS := [(o_aload 0, 1), (o_ic (0), 1), (o_putf 7 8, 3), (o_aload 0, 1), (o_ic (0), 1), (o_putf 7 4, 3), (o_aload 0, 1), (o_ic (0), 1), (o_putf 7 14, 3), (o_aload 0, 1), (o_ic (0), 1), (o_putz 7 19, 3), (o_iload 3, 1), (o_ireti, 1)]
def cd_X7_floor : Nat → jS := fun t => match t with
  | 19 => sg_X7_floor_19
  | 21 => sg_X7_floor_21
  | 68 => sg_X7_floor_68
  | 110 => sg_X7_floor_110
  | 116 => sg_X7_floor_116
  | 123 => sg_X7_floor_123
  | 129 => sg_X7_floor_129
  | _ => []
theorem wl_X7_floor_14 : Cond.fieldLink RX7 14 (TX7 2).1 (TX7 2).2.1 (TX7 2).2.2.1 ∈ wsX7_floor := by decide +kernel
theorem wl_X7_floor_18 : Cond.fieldLink RX7 18 (TX7 3).1 (TX7 3).2.1 (TX7 3).2.2.1 ∈ wsX7_floor := by decide +kernel
theorem wl_X7_floor_21 : Cond.fieldLink RX7 21 (TX7 5).1 (TX7 5).2.1 (TX7 5).2.2.1 ∈ wsX7_floor := by decide +kernel
theorem wl_X7_floor_77 : Cond.fieldLink RX7 77 (TX7 0).1 (TX7 0).2.1 (TX7 0).2.2.1 ∈ wsX7_floor := by decide +kernel
theorem wl_X7_floor_81 : Cond.fieldLink RX7 81 (TX7 8).1 (TX7 8).2.1 (TX7 8).2.2.1 ∈ wsX7_floor := by decide +kernel
theorem wl_X7_floor_84 : Cond.fieldLink RX7 84 (TX7 1).1 (TX7 1).2.1 (TX7 1).2.2.1 ∈ wsX7_floor := by decide +kernel
theorem wl_X7_floor_91 : Cond.fieldLink RX7 91 (TX7 4).1 (TX7 4).2.1 (TX7 4).2.2.1 ∈ wsX7_floor := by decide +kernel
theorem wl_X7_floor_94 : Cond.fieldLink RX7 94 (TX7 14).1 (TX7 14).2.1 (TX7 14).2.2.1 ∈ wsX7_floor := by decide +kernel
theorem wl_X7_floor_97 : Cond.fieldLink RX7 97 (TX7 19).1 (TX7 19).2.1 (TX7 19).2.2.1 ∈ wsX7_floor := by decide +kernel
theorem wi_X7_floor_X7 : ∀ w ∈ u_ws RX7 TX7 33, w ∈ wsX7_floor := by decide +kernel
def E_X7_floor (Γ : jΓ) (Q : jPost) : Prop := Γ.2.2.2.2.2.2.2.2.2.2.1 = 6 ∧ Γ.2.2.2.2.2.2.2.2.2.2.2.1 = vwCl ∧ jC Γ cX7_floor RX7 "floor" (some .int) wsX7_floor 1 22 0 0 ∧ jR Γ Q 0 0
theorem oo_X7_floor_0 {Γ : jΓ} {Q : jPost} (E : E_X7_floor Γ Q) : jSA Γ Q 0 (o_iload 1) 1 := so_iload_n E.2.2.1 rfl dX7_floor_0
theorem oo_X7_floor_1 {Γ : jΓ} {Q : jPost} (E : E_X7_floor Γ Q) : jSA Γ Q 1 (o_ic (0)) 1 := so_iconst E.2.2.1 rfl dX7_floor_1
theorem oo_X7_floor_2 {Γ : jΓ} {Q : jPost} (E : E_X7_floor Γ Q) : jSA Γ Q 2 (o_ic (1)) 1 := so_iconst E.2.2.1 rfl dX7_floor_2
theorem oo_X7_floor_3 {Γ : jΓ} {Q : jPost} (E : E_X7_floor Γ Q) : jSA Γ Q 3 (o_call 3 T_X7_in) 3 := so_callS E.2.2.1 gX7_floor_X7_in (by decide +kernel) rfl (by rw [E.2.1]; exact m_X7_in _) (by decide) (by decide) dX7_floor_3
theorem oo_X7_floor_6 {Γ : jΓ} {Q : jPost} (E : E_X7_floor Γ Q) : jSA Γ Q 6 (o_ifeq 19) 3 := so_ifeq E.2.2.1 (by decide) dX7_floor_6
theorem oo_X7_floor_9 {Γ : jΓ} {Q : jPost} (E : E_X7_floor Γ Q) : jSA Γ Q 9 (o_iload 2) 1 := so_iload_n E.2.2.1 rfl dX7_floor_9
theorem oo_X7_floor_10 {Γ : jΓ} {Q : jPost} (E : E_X7_floor Γ Q) : jSA Γ Q 10 (o_ic (2)) 1 := so_iconst E.2.2.1 rfl dX7_floor_10
theorem oo_X7_floor_11 {Γ : jΓ} {Q : jPost} (E : E_X7_floor Γ Q) : jSA Γ Q 11 (o_ic (12)) 2 := so_bipush E.2.2.1 rfl dX7_floor_11
theorem oo_X7_floor_13 {Γ : jΓ} {Q : jPost} (E : E_X7_floor Γ Q) : jSA Γ Q 13 (o_call 3 T_X7_in) 3 := so_callS E.2.2.1 gX7_floor_X7_in (by decide +kernel) rfl (by rw [E.2.1]; exact m_X7_in _) (by decide) (by decide) dX7_floor_13
theorem oo_X7_floor_16 {Γ : jΓ} {Q : jPost} (E : E_X7_floor Γ Q) : jSA Γ Q 16 (o_ifne 21) 3 := so_ifne E.2.2.1 (by decide) dX7_floor_16
theorem oo_X7_floor_19 {Γ : jΓ} {Q : jPost} (E : E_X7_floor Γ Q) : jSA Γ Q 19 (o_ic (-1)) 1 := so_iconst E.2.2.1 rfl dX7_floor_19
theorem oo_X7_floor_20 {Γ : jΓ} {Q : jPost} (E : E_X7_floor Γ Q) : jSA Γ Q 20 (o_ireti) 1 := so_ireti E.2.2.1 E.2.2.2 dX7_floor_20
theorem oo_X7_floor_21 {Γ : jΓ} {Q : jPost} (E : E_X7_floor Γ Q) : jSA Γ Q 21 (o_aload 0) 1 := so_aload_n E.2.2.1 rfl dX7_floor_21
theorem oo_X7_floor_22 {Γ : jΓ} {Q : jPost} (E : E_X7_floor Γ Q) : jSA Γ Q 22 (o_getf 7 8) 3 := so_getf (ci := 7) E.2.2.1 wi_X7_floor_X7 (by rw [E.2.1]; rfl) 8 (by decide) wl_X7_floor_81 dX7_floor_22
theorem oo_X7_floor_25 {Γ : jΓ} {Q : jPost} (E : E_X7_floor Γ Q) : jSA Γ Q 25 (o_istore 3) 1 := so_istore_n E.2.2.1 rfl (by rw [E.1]; decide) dX7_floor_25
theorem oo_X7_floor_26 {Γ : jΓ} {Q : jPost} (E : E_X7_floor Γ Q) : jSA Γ Q 26 (o_aload 0) 1 := so_aload_n E.2.2.1 rfl dX7_floor_26
theorem oo_X7_floor_27 {Γ : jΓ} {Q : jPost} (E : E_X7_floor Γ Q) : jSA Γ Q 27 (o_iload 1) 1 := so_iload_n E.2.2.1 rfl dX7_floor_27
theorem oo_X7_floor_28 {Γ : jΓ} {Q : jPost} (E : E_X7_floor Γ Q) : jSA Γ Q 28 (o_putf 7 0) 3 := so_putf (ci := 7) E.2.2.1 tyX7 tyX7_ok nmX7 wi_X7_floor_X7 (by rw [E.2.1]; rfl) 0 (by decide) wl_X7_floor_77 rfl (by decide +kernel) dX7_floor_28
theorem oo_X7_floor_31 {Γ : jΓ} {Q : jPost} (E : E_X7_floor Γ Q) : jSA Γ Q 31 (o_aload 0) 1 := so_aload_n E.2.2.1 rfl dX7_floor_31
theorem oo_X7_floor_32 {Γ : jΓ} {Q : jPost} (E : E_X7_floor Γ Q) : jSA Γ Q 32 (o_iload 2) 1 := so_iload_n E.2.2.1 rfl dX7_floor_32
theorem oo_X7_floor_33 {Γ : jΓ} {Q : jPost} (E : E_X7_floor Γ Q) : jSA Γ Q 33 (o_putf 7 1) 3 := so_putf (ci := 7) E.2.2.1 tyX7 tyX7_ok nmX7 wi_X7_floor_X7 (by rw [E.2.1]; rfl) 1 (by decide) wl_X7_floor_84 rfl (by decide +kernel) dX7_floor_33
theorem oo_X7_floor_36 {Γ : jΓ} {Q : jPost} (E : E_X7_floor Γ Q) : jSA Γ Q 36 (o_ic (0)) 1 := so_iconst E.2.2.1 rfl dX7_floor_36
theorem oo_X7_floor_37 {Γ : jΓ} {Q : jPost} (E : E_X7_floor Γ Q) : jSA Γ Q 37 (o_istore 4) 2 := so_istore E.2.2.1 (by rw [E.1]; decide) dX7_floor_37
theorem oo_X7_floor_39 {Γ : jΓ} {Q : jPost} (E : E_X7_floor Γ Q) : jSA Γ Q 39 (o_iload 4) 2 := so_iload E.2.2.1 dX7_floor_39
theorem oo_X7_floor_41 {Γ : jΓ} {Q : jPost} (E : E_X7_floor Γ Q) : jSA Γ Q 41 (o_ic (57600)) 2 := so_ldc E.2.2.1 (by decide +kernel) dX7_floor_41
theorem oo_X7_floor_43 {Γ : jΓ} {Q : jPost} (E : E_X7_floor Γ Q) : jSA Γ Q 43 (o_icge 68) 3 := so_icge E.2.2.1 (by decide) dX7_floor_43
theorem oo_X7_floor_46 {Γ : jΓ} {Q : jPost} (E : E_X7_floor Γ Q) : jSA Γ Q 46 (o_aload 0) 1 := so_aload_n E.2.2.1 rfl dX7_floor_46
theorem oo_X7_floor_47 {Γ : jΓ} {Q : jPost} (E : E_X7_floor Γ Q) : jSA Γ Q 47 (o_getf 7 2) 3 := so_getf (ci := 7) E.2.2.1 wi_X7_floor_X7 (by rw [E.2.1]; rfl) 2 (by decide) wl_X7_floor_14 dX7_floor_47
theorem oo_X7_floor_50 {Γ : jΓ} {Q : jPost} (E : E_X7_floor Γ Q) : jSA Γ Q 50 (o_iload 4) 2 := so_iload E.2.2.1 dX7_floor_50
theorem oo_X7_floor_52 {Γ : jΓ} {Q : jPost} (E : E_X7_floor Γ Q) : jSA Γ Q 52 (o_ic (0)) 1 := so_iconst E.2.2.1 rfl dX7_floor_52
theorem oo_X7_floor_53 {Γ : jΓ} {Q : jPost} (E : E_X7_floor Γ Q) : jSA Γ Q 53 (o_iast) 1 := so_iast E.2.2.1 dX7_floor_53
theorem oo_X7_floor_54 {Γ : jΓ} {Q : jPost} (E : E_X7_floor Γ Q) : jSA Γ Q 54 (o_aload 0) 1 := so_aload_n E.2.2.1 rfl dX7_floor_54
theorem oo_X7_floor_55 {Γ : jΓ} {Q : jPost} (E : E_X7_floor Γ Q) : jSA Γ Q 55 (o_getf 7 3) 3 := so_getf (ci := 7) E.2.2.1 wi_X7_floor_X7 (by rw [E.2.1]; rfl) 3 (by decide) wl_X7_floor_18 dX7_floor_55
theorem oo_X7_floor_58 {Γ : jΓ} {Q : jPost} (E : E_X7_floor Γ Q) : jSA Γ Q 58 (o_iload 4) 2 := so_iload E.2.2.1 dX7_floor_58
theorem oo_X7_floor_60 {Γ : jΓ} {Q : jPost} (E : E_X7_floor Γ Q) : jSA Γ Q 60 (o_ic (0)) 1 := so_iconst E.2.2.1 rfl dX7_floor_60
theorem oo_X7_floor_61 {Γ : jΓ} {Q : jPost} (E : E_X7_floor Γ Q) : jSA Γ Q 61 (o_iast) 1 := so_iast E.2.2.1 dX7_floor_61
theorem oo_X7_floor_62 {Γ : jΓ} {Q : jPost} (E : E_X7_floor Γ Q) : jSA Γ Q 62 (o_iinc 4 (1)) 3 := so_iinc E.2.2.1 rfl (by rw [E.1]; decide) dX7_floor_62
theorem oo_X7_floor_65 {Γ : jΓ} {Q : jPost} (E : E_X7_floor Γ Q) : jSA Γ Q 65 (o_goto 39) 3 := so_goto E.2.2.1 (by decide) dX7_floor_65
theorem oo_X7_floor_68 {Γ : jΓ} {Q : jPost} (E : E_X7_floor Γ Q) : jSA Γ Q 68 (o_ic (0)) 1 := so_iconst E.2.2.1 rfl dX7_floor_68
theorem oo_X7_floor_69 {Γ : jΓ} {Q : jPost} (E : E_X7_floor Γ Q) : jSA Γ Q 69 (o_istore 4) 2 := so_istore E.2.2.1 (by rw [E.1]; decide) dX7_floor_69
theorem oo_X7_floor_71 {Γ : jΓ} {Q : jPost} (E : E_X7_floor Γ Q) : jSA Γ Q 71 (o_iload 4) 2 := so_iload E.2.2.1 dX7_floor_71
theorem oo_X7_floor_73 {Γ : jΓ} {Q : jPost} (E : E_X7_floor Γ Q) : jSA Γ Q 73 (o_ic (4)) 1 := so_iconst E.2.2.1 rfl dX7_floor_73
theorem oo_X7_floor_74 {Γ : jΓ} {Q : jPost} (E : E_X7_floor Γ Q) : jSA Γ Q 74 (o_icge 129) 3 := so_icge E.2.2.1 (by decide) dX7_floor_74
theorem oo_X7_floor_77 {Γ : jΓ} {Q : jPost} (E : E_X7_floor Γ Q) : jSA Γ Q 77 (o_ic (0)) 1 := so_iconst E.2.2.1 rfl dX7_floor_77
theorem oo_X7_floor_78 {Γ : jΓ} {Q : jPost} (E : E_X7_floor Γ Q) : jSA Γ Q 78 (o_istore 5) 2 := so_istore E.2.2.1 (by rw [E.1]; decide) dX7_floor_78
theorem oo_X7_floor_80 {Γ : jΓ} {Q : jPost} (E : E_X7_floor Γ Q) : jSA Γ Q 80 (o_iload 5) 2 := so_iload E.2.2.1 dX7_floor_80
theorem oo_X7_floor_82 {Γ : jΓ} {Q : jPost} (E : E_X7_floor Γ Q) : jSA Γ Q 82 (o_ic (12)) 2 := so_bipush E.2.2.1 rfl dX7_floor_82
theorem oo_X7_floor_84 {Γ : jΓ} {Q : jPost} (E : E_X7_floor Γ Q) : jSA Γ Q 84 (o_icge 123) 3 := so_icge E.2.2.1 (by decide) dX7_floor_84
theorem oo_X7_floor_87 {Γ : jΓ} {Q : jPost} (E : E_X7_floor Γ Q) : jSA Γ Q 87 (o_aload 0) 1 := so_aload_n E.2.2.1 rfl dX7_floor_87
theorem oo_X7_floor_88 {Γ : jΓ} {Q : jPost} (E : E_X7_floor Γ Q) : jSA Γ Q 88 (o_getf 7 5) 3 := so_getf (ci := 7) E.2.2.1 wi_X7_floor_X7 (by rw [E.2.1]; rfl) 5 (by decide) wl_X7_floor_21 dX7_floor_88
theorem oo_X7_floor_91 {Γ : jΓ} {Q : jPost} (E : E_X7_floor Γ Q) : jSA Γ Q 91 (o_ic (12)) 2 := so_bipush E.2.2.1 rfl dX7_floor_91
theorem oo_X7_floor_93 {Γ : jΓ} {Q : jPost} (E : E_X7_floor Γ Q) : jSA Γ Q 93 (o_iload 4) 2 := so_iload E.2.2.1 dX7_floor_93
theorem oo_X7_floor_95 {Γ : jΓ} {Q : jPost} (E : E_X7_floor Γ Q) : jSA Γ Q 95 (o_imul) 1 := so_imul E.2.2.1 dX7_floor_95
theorem oo_X7_floor_96 {Γ : jΓ} {Q : jPost} (E : E_X7_floor Γ Q) : jSA Γ Q 96 (o_iload 5) 2 := so_iload E.2.2.1 dX7_floor_96
theorem oo_X7_floor_98 {Γ : jΓ} {Q : jPost} (E : E_X7_floor Γ Q) : jSA Γ Q 98 (o_iadd) 1 := so_iadd E.2.2.1 dX7_floor_98
theorem oo_X7_floor_99 {Γ : jΓ} {Q : jPost} (E : E_X7_floor Γ Q) : jSA Γ Q 99 (o_iload 5) 2 := so_iload E.2.2.1 dX7_floor_99
theorem oo_X7_floor_101 {Γ : jΓ} {Q : jPost} (E : E_X7_floor Γ Q) : jSA Γ Q 101 (o_ic (2)) 1 := so_iconst E.2.2.1 rfl dX7_floor_101
theorem oo_X7_floor_102 {Γ : jΓ} {Q : jPost} (E : E_X7_floor Γ Q) : jSA Γ Q 102 (o_irem) 1 := so_irem E.2.2.1 dX7_floor_102
theorem oo_X7_floor_103 {Γ : jΓ} {Q : jPost} (E : E_X7_floor Γ Q) : jSA Γ Q 103 (o_ifne 110) 3 := so_ifne E.2.2.1 (by decide) dX7_floor_103
theorem oo_X7_floor_106 {Γ : jΓ} {Q : jPost} (E : E_X7_floor Γ Q) : jSA Γ Q 106 (o_ic (1)) 1 := so_iconst E.2.2.1 rfl dX7_floor_106
theorem oo_X7_floor_107 {Γ : jΓ} {Q : jPost} (E : E_X7_floor Γ Q) : jSA Γ Q 107 (o_goto 116) 3 := so_goto E.2.2.1 (by decide) dX7_floor_107
theorem oo_X7_floor_110 {Γ : jΓ} {Q : jPost} (E : E_X7_floor Γ Q) : jSA Γ Q 110 (o_aload 0) 1 := so_aload_n E.2.2.1 rfl dX7_floor_110
theorem oo_X7_floor_111 {Γ : jΓ} {Q : jPost} (E : E_X7_floor Γ Q) : jSA Γ Q 111 (o_callV 1 7 T_X7_directions) 3 := so_callV E.2.2.1 (ci := 7) (by rw [E.2.1]; rfl) gX7_floor_X7_directions (by decide +kernel) rfl (by rw [E.2.1]; exact m_X7_directions _) (by decide) (by decide) dX7_floor_111
theorem oo_X7_floor_114 {Γ : jΓ} {Q : jPost} (E : E_X7_floor Γ Q) : jSA Γ Q 114 (o_ic (1)) 1 := so_iconst E.2.2.1 rfl dX7_floor_114
theorem oo_X7_floor_115 {Γ : jΓ} {Q : jPost} (E : E_X7_floor Γ Q) : jSA Γ Q 115 (o_isub) 1 := so_isub E.2.2.1 dX7_floor_115
theorem oo_X7_floor_116 {Γ : jΓ} {Q : jPost} (E : E_X7_floor Γ Q) : jSA Γ Q 116 (o_iast) 1 := so_iast E.2.2.1 dX7_floor_116
theorem oo_X7_floor_117 {Γ : jΓ} {Q : jPost} (E : E_X7_floor Γ Q) : jSA Γ Q 117 (o_iinc 5 (1)) 3 := so_iinc E.2.2.1 rfl (by rw [E.1]; decide) dX7_floor_117
theorem oo_X7_floor_120 {Γ : jΓ} {Q : jPost} (E : E_X7_floor Γ Q) : jSA Γ Q 120 (o_goto 80) 3 := so_goto E.2.2.1 (by decide) dX7_floor_120
theorem oo_X7_floor_123 {Γ : jΓ} {Q : jPost} (E : E_X7_floor Γ Q) : jSA Γ Q 123 (o_iinc 4 (1)) 3 := so_iinc E.2.2.1 rfl (by rw [E.1]; decide) dX7_floor_123
theorem oo_X7_floor_126 {Γ : jΓ} {Q : jPost} (E : E_X7_floor Γ Q) : jSA Γ Q 126 (o_goto 71) 3 := so_goto E.2.2.1 (by decide) dX7_floor_126
theorem oo_X7_floor_129 {Γ : jΓ} {Q : jPost} (E : E_X7_floor Γ Q) : jSA Γ Q 129 (o_aload 0) 1 := so_aload_n E.2.2.1 rfl dX7_floor_129
theorem oo_X7_floor_130 {Γ : jΓ} {Q : jPost} (E : E_X7_floor Γ Q) : jSA Γ Q 130 (o_ic (0)) 1 := so_iconst E.2.2.1 rfl dX7_floor_130
theorem oo_X7_floor_131 {Γ : jΓ} {Q : jPost} (E : E_X7_floor Γ Q) : jSA Γ Q 131 (o_putf 7 8) 3 := so_putf (ci := 7) E.2.2.1 tyX7 tyX7_ok nmX7 wi_X7_floor_X7 (by rw [E.2.1]; rfl) 8 (by decide) wl_X7_floor_81 rfl (by decide +kernel) dX7_floor_131
theorem oo_X7_floor_134 {Γ : jΓ} {Q : jPost} (E : E_X7_floor Γ Q) : jSA Γ Q 134 (o_aload 0) 1 := so_aload_n E.2.2.1 rfl dX7_floor_134
theorem oo_X7_floor_135 {Γ : jΓ} {Q : jPost} (E : E_X7_floor Γ Q) : jSA Γ Q 135 (o_ic (0)) 1 := so_iconst E.2.2.1 rfl dX7_floor_135
theorem oo_X7_floor_136 {Γ : jΓ} {Q : jPost} (E : E_X7_floor Γ Q) : jSA Γ Q 136 (o_putf 7 4) 3 := so_putf (ci := 7) E.2.2.1 tyX7 tyX7_ok nmX7 wi_X7_floor_X7 (by rw [E.2.1]; rfl) 4 (by decide) wl_X7_floor_91 rfl (by decide +kernel) dX7_floor_136
theorem oo_X7_floor_139 {Γ : jΓ} {Q : jPost} (E : E_X7_floor Γ Q) : jSA Γ Q 139 (o_aload 0) 1 := so_aload_n E.2.2.1 rfl dX7_floor_139
theorem oo_X7_floor_140 {Γ : jΓ} {Q : jPost} (E : E_X7_floor Γ Q) : jSA Γ Q 140 (o_ic (0)) 1 := so_iconst E.2.2.1 rfl dX7_floor_140
theorem oo_X7_floor_141 {Γ : jΓ} {Q : jPost} (E : E_X7_floor Γ Q) : jSA Γ Q 141 (o_putf 7 14) 3 := so_putf (ci := 7) E.2.2.1 tyX7 tyX7_ok nmX7 wi_X7_floor_X7 (by rw [E.2.1]; rfl) 14 (by decide) wl_X7_floor_94 rfl (by decide +kernel) dX7_floor_141
theorem oo_X7_floor_144 {Γ : jΓ} {Q : jPost} (E : E_X7_floor Γ Q) : jSA Γ Q 144 (o_aload 0) 1 := so_aload_n E.2.2.1 rfl dX7_floor_144
theorem oo_X7_floor_145 {Γ : jΓ} {Q : jPost} (E : E_X7_floor Γ Q) : jSA Γ Q 145 (o_ic (0)) 1 := so_iconst E.2.2.1 rfl dX7_floor_145
theorem oo_X7_floor_146 {Γ : jΓ} {Q : jPost} (E : E_X7_floor Γ Q) : jSA Γ Q 146 (o_putz 7 19) 3 := so_putz (ci := 7) E.2.2.1 tyX7 tyX7_ok nmX7 wi_X7_floor_X7 (by rw [E.2.1]; rfl) 19 (by decide) wl_X7_floor_97 rfl (by decide +kernel) dX7_floor_146
theorem oo_X7_floor_149 {Γ : jΓ} {Q : jPost} (E : E_X7_floor Γ Q) : jSA Γ Q 149 (o_iload 3) 1 := so_iload_n E.2.2.1 rfl dX7_floor_149
theorem oo_X7_floor_150 {Γ : jΓ} {Q : jPost} (E : E_X7_floor Γ Q) : jSA Γ Q 150 (o_ireti) 1 := so_ireti E.2.2.1 E.2.2.2 dX7_floor_150
theorem ok_X7_floor_0 {Γ : jΓ} {Q : jPost} (E : E_X7_floor Γ Q) : jSS Γ Q 0 sg_X7_floor_0 := ⟨oo_X7_floor_0 E, oo_X7_floor_1 E, oo_X7_floor_2 E, oo_X7_floor_3 E, oo_X7_floor_6 E, oo_X7_floor_9 E, oo_X7_floor_10 E, oo_X7_floor_11 E, oo_X7_floor_13 E, oo_X7_floor_16 E, oo_X7_floor_19 E, oo_X7_floor_20 E, trivial⟩
theorem ok_X7_floor_19 {Γ : jΓ} {Q : jPost} (E : E_X7_floor Γ Q) : jSS Γ Q 19 sg_X7_floor_19 := ⟨oo_X7_floor_19 E, oo_X7_floor_20 E, trivial⟩
theorem ok_X7_floor_21 {Γ : jΓ} {Q : jPost} (E : E_X7_floor Γ Q) : jSS Γ Q 21 sg_X7_floor_21 := ⟨oo_X7_floor_21 E, oo_X7_floor_22 E, oo_X7_floor_25 E, oo_X7_floor_26 E, oo_X7_floor_27 E, oo_X7_floor_28 E, oo_X7_floor_31 E, oo_X7_floor_32 E, oo_X7_floor_33 E, oo_X7_floor_36 E, oo_X7_floor_37 E, trivial⟩
theorem ok_X7_floor_39 {Γ : jΓ} {Q : jPost} (E : E_X7_floor Γ Q) : jSS Γ Q 39 sg_X7_floor_39 := ⟨oo_X7_floor_39 E, oo_X7_floor_41 E, oo_X7_floor_43 E, oo_X7_floor_46 E, oo_X7_floor_47 E, oo_X7_floor_50 E, oo_X7_floor_52 E, oo_X7_floor_53 E, oo_X7_floor_54 E, oo_X7_floor_55 E, oo_X7_floor_58 E, oo_X7_floor_60 E, oo_X7_floor_61 E, oo_X7_floor_62 E, oo_X7_floor_65 E, trivial⟩
theorem ok_X7_floor_68 {Γ : jΓ} {Q : jPost} (E : E_X7_floor Γ Q) : jSS Γ Q 68 sg_X7_floor_68 := ⟨oo_X7_floor_68 E, oo_X7_floor_69 E, trivial⟩
theorem ok_X7_floor_71 {Γ : jΓ} {Q : jPost} (E : E_X7_floor Γ Q) : jSS Γ Q 71 sg_X7_floor_71 := ⟨oo_X7_floor_71 E, oo_X7_floor_73 E, oo_X7_floor_74 E, oo_X7_floor_77 E, oo_X7_floor_78 E, trivial⟩
theorem ok_X7_floor_80 {Γ : jΓ} {Q : jPost} (E : E_X7_floor Γ Q) : jSS Γ Q 80 sg_X7_floor_80 := ⟨oo_X7_floor_80 E, oo_X7_floor_82 E, oo_X7_floor_84 E, oo_X7_floor_87 E, oo_X7_floor_88 E, oo_X7_floor_91 E, oo_X7_floor_93 E, oo_X7_floor_95 E, oo_X7_floor_96 E, oo_X7_floor_98 E, oo_X7_floor_99 E, oo_X7_floor_101 E, oo_X7_floor_102 E, oo_X7_floor_103 E, oo_X7_floor_106 E, oo_X7_floor_107 E, trivial⟩
theorem ok_X7_floor_110 {Γ : jΓ} {Q : jPost} (E : E_X7_floor Γ Q) : jSS Γ Q 110 sg_X7_floor_110 := ⟨oo_X7_floor_110 E, oo_X7_floor_111 E, oo_X7_floor_114 E, oo_X7_floor_115 E, oo_X7_floor_116 E, oo_X7_floor_117 E, oo_X7_floor_120 E, trivial⟩
theorem ok_X7_floor_116 {Γ : jΓ} {Q : jPost} (E : E_X7_floor Γ Q) : jSS Γ Q 116 sg_X7_floor_116 := ⟨oo_X7_floor_116 E, oo_X7_floor_117 E, oo_X7_floor_120 E, trivial⟩
theorem ok_X7_floor_123 {Γ : jΓ} {Q : jPost} (E : E_X7_floor Γ Q) : jSS Γ Q 123 sg_X7_floor_123 := ⟨oo_X7_floor_123 E, oo_X7_floor_126 E, trivial⟩
theorem ok_X7_floor_129 {Γ : jΓ} {Q : jPost} (E : E_X7_floor Γ Q) : jSS Γ Q 129 sg_X7_floor_129 := ⟨oo_X7_floor_129 E, oo_X7_floor_130 E, oo_X7_floor_131 E, oo_X7_floor_134 E, oo_X7_floor_135 E, oo_X7_floor_136 E, oo_X7_floor_139 E, oo_X7_floor_140 E, oo_X7_floor_141 E, oo_X7_floor_144 E, oo_X7_floor_145 E, oo_X7_floor_146 E, oo_X7_floor_149 E, oo_X7_floor_150 E, trivial⟩
theorem okc_X7_floor {Γ : jΓ} {Q : jPost} (E : E_X7_floor Γ Q) (t : Nat) : jSS Γ Q t (cd_X7_floor t) := by
  unfold cd_X7_floor
  split
  · exact ok_X7_floor_19 E
  · exact ok_X7_floor_21 E
  · exact ok_X7_floor_68 E
  · exact ok_X7_floor_110 E
  · exact ok_X7_floor_116 E
  · exact ok_X7_floor_123 E
  · exact ok_X7_floor_129 E
  · trivial
theorem m_X7_floor_of (l : Launch) (hv : ∀ (G : jGt) (Q : jPost) (vs : List Value) (K : List jK) (h : jM), jHd cd_X7_floor G Q sg_X7_floor_0 0 → jHd cd_X7_floor G Q sg_X7_floor_39 39 → jHd cd_X7_floor G Q sg_X7_floor_71 71 → jHd cd_X7_floor G Q sg_X7_floor_80 80 → T_X7_floor vs K h Q → (lg_sl vs).length ≤ 6 ∧ G 0 (jinit vs 6) [] K h 0 0) : jHolds vwCl l yX7_floor wsX7_floor 1 22 0 0 T_X7_floor := by
  refine jMet (cc := cX7_floor) (maxL := 6) (rt := (some .int)) (by decide +kernel) rfl (fun Γ Q vs K h hl hn hcl C hR hT => hv (jG Γ) Q vs K h ?_ ?_ ?_ ?_ hT)
  · exact fun n L st K h ce sl => jwp_ok (okc_X7_floor ⟨hn, hcl, C, hR⟩) n sg_X7_floor_0 0 (ok_X7_floor_0 ⟨hn, hcl, C, hR⟩) L st K h ce sl
  · exact fun n L st K h ce sl => jwp_ok (okc_X7_floor ⟨hn, hcl, C, hR⟩) n sg_X7_floor_39 39 (ok_X7_floor_39 ⟨hn, hcl, C, hR⟩) L st K h ce sl
  · exact fun n L st K h ce sl => jwp_ok (okc_X7_floor ⟨hn, hcl, C, hR⟩) n sg_X7_floor_71 71 (ok_X7_floor_71 ⟨hn, hcl, C, hR⟩) L st K h ce sl
  · exact fun n L st K h ce sl => jwp_ok (okc_X7_floor ⟨hn, hcl, C, hR⟩) n sg_X7_floor_80 80 (ok_X7_floor_80 ⟨hn, hcl, C, hR⟩) L st K h ce sl
set_option maxHeartbeats 4000000 in
set_option maxRecDepth 100000 in
theorem v_X7_floor {G : jGt} {Q : jPost} {K : List jK} {h : jM} {k : Int32} {n : Int32} (hT : jXM K ∧ (¬ ((0 ≤ k ∧ k ≤ 1) ∧ 2 ≤ n ∧ n ≤ 12) → Q (some (.int (-1))) K h) ∧ ((0 ≤ k ∧ k ≤ 1) ∧ 2 ≤ n ∧ n ≤ 12 → Q (some (.int (h 37 8))) K (mFloor h k n))) (H0 : jHd cd_X7_floor G Q sg_X7_floor_0 0) (H39 : jHd cd_X7_floor G Q sg_X7_floor_39 39) (H71 : jHd cd_X7_floor G Q sg_X7_floor_71 71) (H80 : jHd cd_X7_floor G Q sg_X7_floor_80 80) : G 0 [some (.ref 37), some (.int k), some (.int n), none, none, none] [] K h 0 0 := by
  obtain ⟨hM, hT0, hT1⟩ := hT
  by_cases c1 : 0 ≤ k ∧ k ≤ 1
  · by_cases c2 : 2 ≤ n ∧ n ≤ 12
    · have hT1 := hT1 ⟨c1, c2⟩
      obtain ⟨g, hg⟩ : ∃ g, g = up2 (up2 h 37 0 k) 37 1 n := ⟨_, rfl⟩
      obtain ⟨g2, hg2⟩ : ∃ g2, g2 = upr (upr g 38 (jfill 57600 0 (g 38))) 39 (jfill 57600 0 (g 39)) := ⟨_, rfl⟩
      have eF : mFloor h k n = up2 (up2 (up2 (up2 (mRst g2 4 0) 37 8 0) 37 4 0) 37 14 0) 37 19 0 := by rw [hg2, hg]; rfl
      rw [eF] at hT1
      have e57 : (57600 : Int32) = nI 57600 := rfl
      have inner : ∀ r, r < 4 → (∀ L : jL, L = [some (.ref 37), some (.int k), some (.int n), some (.int (h 37 8)), some (.int (nI r)), some (.int (nI 12))] → G 80 L [] K (mRst g2 r 12) 0 0) → ∀ m c, c + m = 12 → G 80 [some (.ref 37), some (.int k), some (.int n), some (.int (h 37 8)), some (.int (nI r)), some (.int (nI c))] [] K (mRst g2 r c) 0 0 := by
        intro r hr hend m
        induction m with
        | zero =>
          intro c hc
          have : c = 12 := by omega
          subst this
          exact hend _ rfl
        | succ m ih =>
          intro c hc
          have h2 := ih (c + 1) (by omega)
          have hv : vp_in (nI (12 * r + c)) 48 := vp_in_nI (by omega) (by decide)
          have ha : (12 : Int32) * nI r + nI c = nI (12 * r + c) := by rw [show (12 : Int32) = nI 12 from rfl, nI_mul, nI_add]
          have hst := mRst_s g2 r c (by omega)
          refine H80 60 _ _ _ _ _ _ ?_
          simp only [sg_X7_floor_0, sg_X7_floor_19, sg_X7_floor_21, sg_X7_floor_39, sg_X7_floor_68, sg_X7_floor_71, sg_X7_floor_80, sg_X7_floor_110, sg_X7_floor_116, sg_X7_floor_123, sg_X7_floor_129, cd_X7_floor, jwp, o_ic, o_lc, o_iload, o_lload, o_aload, o_istore, o_lstore, o_astore, o_iinc, o_pop, o_dup, o_dup2, o_iadd, o_isub, o_imul, o_iand, o_ior, o_ishl, o_ladd, o_lmul, o_land, o_lor, o_idiv, o_irem, o_ineg, o_i2l, o_l2i, o_i2b, o_i2s, o_lushr, o_lshr, o_lshl, o_lcmp, o_ifeq, o_ifne, o_iflt, o_ifge, o_ifgt, o_ifle, o_iceq, o_icne, o_iclt, o_icge, o_icgt, o_icle, o_goto, o_tsw, jsw, o_lsw, jlk, o_getf, o_putf, o_putz, o_iald, o_zald, o_iast, o_zast, o_aald, o_alen, o_gets, o_zld, o_zlen, o_cpy, o_call, o_callV, o_ireti, o_iretz, o_lret, o_vret, jg, js, jkp, jkill, jsp, jcs, jfw, jov, Value.category, Option.toList_some, Option.toList_none, List.nil_append, List.cons_append, List.append_nil, Nat.reduceAdd, true_and, and_true, jb0, jb01, jb1, jem, true_or, or_true, Classical.not_not, forall_const, List.length_cons, List.length_nil, Nat.reduceLeDiff, Nat.zero_le, Nat.reduceLT, hM, km_37_0 hM, km_37_1 hM, km_37_2 hM, km_37_3 hM, km_37_4 hM, km_37_5 hM, km_37_6 hM, km_37_7 hM, km_37_8 hM, km_37_9 hM, km_37_10 hM, km_37_11 hM, km_37_12 hM, km_37_13 hM, km_37_14 hM, km_37_15 hM, km_37_16 hM, km_37_17 hM, km_37_18 hM, km_37_19 hM, km_37_20 hM, km_37_21 hM, km_37_22 hM, km_37_23 hM, km_37_24 hM, km_37_25 hM, km_37_26 hM, km_37_27 hM, km_37_28 hM, km_37_29 hM, km_37_30 hM, km_37_31 hM, km_37_32 hM, kmo_37 hM, kma_38 hM, kma_39 hM, kma_40 hM, kma_41 hM, kma_42 hM, kma_43 hM, kma_44 hM, kma_45 hM, kma_46 hM, kma_47 hM, kma_48 hM, kma_49 hM, kma_50 hM, kma_52 hM, kma_53 hM, kma_54 hM, kma_55 hM, kma_56 hM, kma_51 hM, T_X7_directions, ha, hv]
          rw [show (12 : Int32) = nI 12 from rfl, nI_clamp (by omega)]
          refine ⟨fun q => absurd ((nI_leI (by omega) (by omega)).mp q) (by omega), fun _ => ⟨by decide, fun q => ?_, fun q => ?_⟩⟩
          · rw [jmod2 (by omega)] at q
            have e : ¬ c % 2 = 0 := q
            rw [if_neg e] at hst
            have eD : jdM (mRst g2 r c) = jdM g2 := by unfold jdM; rw [mRst_o _ _ _ (by decide)]
            rw [eD, hst, nI_1]
            exact h2
          · rw [jmod2 (by omega)] at q
            have e : c % 2 = 0 := q
            rw [if_pos e] at hst
            rw [hst, nI_1]
            exact h2
      have outer : ∀ m r, r + m = 4 → ∀ x5, G 71 [some (.ref 37), some (.int k), some (.int n), some (.int (h 37 8)), some (.int (nI r)), x5] [] K (mRst g2 r 0) 0 0 := by
        intro m
        induction m with
        | zero =>
          intro r hr x5
          have : r = 4 := by omega
          subst this
          refine H71 60 _ _ _ _ _ _ ?_
          simp only [sg_X7_floor_0, sg_X7_floor_19, sg_X7_floor_21, sg_X7_floor_39, sg_X7_floor_68, sg_X7_floor_71, sg_X7_floor_80, sg_X7_floor_110, sg_X7_floor_116, sg_X7_floor_123, sg_X7_floor_129, cd_X7_floor, jwp, o_ic, o_lc, o_iload, o_lload, o_aload, o_istore, o_lstore, o_astore, o_iinc, o_pop, o_dup, o_dup2, o_iadd, o_isub, o_imul, o_iand, o_ior, o_ishl, o_ladd, o_lmul, o_land, o_lor, o_idiv, o_irem, o_ineg, o_i2l, o_l2i, o_i2b, o_i2s, o_lushr, o_lshr, o_lshl, o_lcmp, o_ifeq, o_ifne, o_iflt, o_ifge, o_ifgt, o_ifle, o_iceq, o_icne, o_iclt, o_icge, o_icgt, o_icle, o_goto, o_tsw, jsw, o_lsw, jlk, o_getf, o_putf, o_putz, o_iald, o_zald, o_iast, o_zast, o_aald, o_alen, o_gets, o_zld, o_zlen, o_cpy, o_call, o_callV, o_ireti, o_iretz, o_lret, o_vret, jg, js, jkp, jkill, jsp, jcs, jfw, jov, Value.category, Option.toList_some, Option.toList_none, List.nil_append, List.cons_append, List.append_nil, Nat.reduceAdd, true_and, and_true, jb0, jb01, jb1, jem, true_or, or_true, Classical.not_not, forall_const, List.length_cons, List.length_nil, Nat.reduceLeDiff, Nat.zero_le, Nat.reduceLT, hM, km_37_0 hM, km_37_1 hM, km_37_2 hM, km_37_3 hM, km_37_4 hM, km_37_5 hM, km_37_6 hM, km_37_7 hM, km_37_8 hM, km_37_9 hM, km_37_10 hM, km_37_11 hM, km_37_12 hM, km_37_13 hM, km_37_14 hM, km_37_15 hM, km_37_16 hM, km_37_17 hM, km_37_18 hM, km_37_19 hM, km_37_20 hM, km_37_21 hM, km_37_22 hM, km_37_23 hM, km_37_24 hM, km_37_25 hM, km_37_26 hM, km_37_27 hM, km_37_28 hM, km_37_29 hM, km_37_30 hM, km_37_31 hM, km_37_32 hM, kmo_37 hM, kma_38 hM, kma_39 hM, kma_40 hM, kma_41 hM, kma_42 hM, kma_43 hM, kma_44 hM, kma_45 hM, kma_46 hM, kma_47 hM, kma_48 hM, kma_49 hM, kma_50 hM, kma_52 hM, kma_53 hM, kma_54 hM, kma_55 hM, kma_56 hM, kma_51 hM]
          rw [e4]
          exact ⟨fun _ => by first | exact hT1 | exact ⟨Or.inl rfl, hT1⟩, fun q => absurd (Int32.le_refl _) q⟩
        | succ m ih =>
          intro r hr x5
          refine H71 60 _ _ _ _ _ _ ?_
          simp only [sg_X7_floor_0, sg_X7_floor_19, sg_X7_floor_21, sg_X7_floor_39, sg_X7_floor_68, sg_X7_floor_71, sg_X7_floor_80, sg_X7_floor_110, sg_X7_floor_116, sg_X7_floor_123, sg_X7_floor_129, cd_X7_floor, jwp, o_ic, o_lc, o_iload, o_lload, o_aload, o_istore, o_lstore, o_astore, o_iinc, o_pop, o_dup, o_dup2, o_iadd, o_isub, o_imul, o_iand, o_ior, o_ishl, o_ladd, o_lmul, o_land, o_lor, o_idiv, o_irem, o_ineg, o_i2l, o_l2i, o_i2b, o_i2s, o_lushr, o_lshr, o_lshl, o_lcmp, o_ifeq, o_ifne, o_iflt, o_ifge, o_ifgt, o_ifle, o_iceq, o_icne, o_iclt, o_icge, o_icgt, o_icle, o_goto, o_tsw, jsw, o_lsw, jlk, o_getf, o_putf, o_putz, o_iald, o_zald, o_iast, o_zast, o_aald, o_alen, o_gets, o_zld, o_zlen, o_cpy, o_call, o_callV, o_ireti, o_iretz, o_lret, o_vret, jg, js, jkp, jkill, jsp, jcs, jfw, jov, Value.category, Option.toList_some, Option.toList_none, List.nil_append, List.cons_append, List.append_nil, Nat.reduceAdd, true_and, and_true, jb0, jb01, jb1, jem, true_or, or_true, Classical.not_not, forall_const, List.length_cons, List.length_nil, Nat.reduceLeDiff, Nat.zero_le, Nat.reduceLT, hM, km_37_0 hM, km_37_1 hM, km_37_2 hM, km_37_3 hM, km_37_4 hM, km_37_5 hM, km_37_6 hM, km_37_7 hM, km_37_8 hM, km_37_9 hM, km_37_10 hM, km_37_11 hM, km_37_12 hM, km_37_13 hM, km_37_14 hM, km_37_15 hM, km_37_16 hM, km_37_17 hM, km_37_18 hM, km_37_19 hM, km_37_20 hM, km_37_21 hM, km_37_22 hM, km_37_23 hM, km_37_24 hM, km_37_25 hM, km_37_26 hM, km_37_27 hM, km_37_28 hM, km_37_29 hM, km_37_30 hM, km_37_31 hM, km_37_32 hM, kmo_37 hM, kma_38 hM, kma_39 hM, kma_40 hM, kma_41 hM, kma_42 hM, kma_43 hM, kma_44 hM, kma_45 hM, kma_46 hM, kma_47 hM, kma_48 hM, kma_49 hM, kma_50 hM, kma_52 hM, kma_53 hM, kma_54 hM, kma_55 hM, kma_56 hM, kma_51 hM]
          rw [e4]
          refine ⟨fun q => absurd ((nI_leI (by omega) (by omega)).mp q) (by omega), fun _ => ?_⟩
          refine inner r (by omega) (fun L hL => ?_) 12 0 (by omega)
          subst hL
          refine H80 60 _ _ _ _ _ _ ?_
          simp only [sg_X7_floor_0, sg_X7_floor_19, sg_X7_floor_21, sg_X7_floor_39, sg_X7_floor_68, sg_X7_floor_71, sg_X7_floor_80, sg_X7_floor_110, sg_X7_floor_116, sg_X7_floor_123, sg_X7_floor_129, cd_X7_floor, jwp, o_ic, o_lc, o_iload, o_lload, o_aload, o_istore, o_lstore, o_astore, o_iinc, o_pop, o_dup, o_dup2, o_iadd, o_isub, o_imul, o_iand, o_ior, o_ishl, o_ladd, o_lmul, o_land, o_lor, o_idiv, o_irem, o_ineg, o_i2l, o_l2i, o_i2b, o_i2s, o_lushr, o_lshr, o_lshl, o_lcmp, o_ifeq, o_ifne, o_iflt, o_ifge, o_ifgt, o_ifle, o_iceq, o_icne, o_iclt, o_icge, o_icgt, o_icle, o_goto, o_tsw, jsw, o_lsw, jlk, o_getf, o_putf, o_putz, o_iald, o_zald, o_iast, o_zast, o_aald, o_alen, o_gets, o_zld, o_zlen, o_cpy, o_call, o_callV, o_ireti, o_iretz, o_lret, o_vret, jg, js, jkp, jkill, jsp, jcs, jfw, jov, Value.category, Option.toList_some, Option.toList_none, List.nil_append, List.cons_append, List.append_nil, Nat.reduceAdd, true_and, and_true, jb0, jb01, jb1, jem, true_or, or_true, Classical.not_not, forall_const, List.length_cons, List.length_nil, Nat.reduceLeDiff, Nat.zero_le, Nat.reduceLT, hM, km_37_0 hM, km_37_1 hM, km_37_2 hM, km_37_3 hM, km_37_4 hM, km_37_5 hM, km_37_6 hM, km_37_7 hM, km_37_8 hM, km_37_9 hM, km_37_10 hM, km_37_11 hM, km_37_12 hM, km_37_13 hM, km_37_14 hM, km_37_15 hM, km_37_16 hM, km_37_17 hM, km_37_18 hM, km_37_19 hM, km_37_20 hM, km_37_21 hM, km_37_22 hM, km_37_23 hM, km_37_24 hM, km_37_25 hM, km_37_26 hM, km_37_27 hM, km_37_28 hM, km_37_29 hM, km_37_30 hM, km_37_31 hM, km_37_32 hM, kmo_37 hM, kma_38 hM, kma_39 hM, kma_40 hM, kma_41 hM, kma_42 hM, kma_43 hM, kma_44 hM, kma_45 hM, kma_46 hM, kma_47 hM, kma_48 hM, kma_49 hM, kma_50 hM, kma_52 hM, kma_53 hM, kma_54 hM, kma_55 hM, kma_56 hM, kma_51 hM, T_X7_directions]
          refine ⟨fun _ => ?_, fun q => absurd (by decide) q⟩
          have h2 := ih (r + 1) (by omega) (some (.int (nI 12)))
          rw [nI_1]
          rw [mRst_row] at h2
          exact h2
      have first : ∀ m i, i + m = 57600 → G 39 [some (.ref 37), some (.int k), some (.int n), some (.int (h 37 8)), some (.int (nI i)), none] [] K (upr (upr g 38 (jfill i 0 (g 38))) 39 (jfill i 0 (g 39))) 0 0 := by
        intro m
        induction m with
        | zero =>
          intro i hi
          have : i = 57600 := by omega
          subst this
          refine H39 60 _ _ _ _ _ _ ?_
          simp only [sg_X7_floor_0, sg_X7_floor_19, sg_X7_floor_21, sg_X7_floor_39, sg_X7_floor_68, sg_X7_floor_71, sg_X7_floor_80, sg_X7_floor_110, sg_X7_floor_116, sg_X7_floor_123, sg_X7_floor_129, cd_X7_floor, jwp, o_ic, o_lc, o_iload, o_lload, o_aload, o_istore, o_lstore, o_astore, o_iinc, o_pop, o_dup, o_dup2, o_iadd, o_isub, o_imul, o_iand, o_ior, o_ishl, o_ladd, o_lmul, o_land, o_lor, o_idiv, o_irem, o_ineg, o_i2l, o_l2i, o_i2b, o_i2s, o_lushr, o_lshr, o_lshl, o_lcmp, o_ifeq, o_ifne, o_iflt, o_ifge, o_ifgt, o_ifle, o_iceq, o_icne, o_iclt, o_icge, o_icgt, o_icle, o_goto, o_tsw, jsw, o_lsw, jlk, o_getf, o_putf, o_putz, o_iald, o_zald, o_iast, o_zast, o_aald, o_alen, o_gets, o_zld, o_zlen, o_cpy, o_call, o_callV, o_ireti, o_iretz, o_lret, o_vret, jg, js, jkp, jkill, jsp, jcs, jfw, jov, Value.category, Option.toList_some, Option.toList_none, List.nil_append, List.cons_append, List.append_nil, Nat.reduceAdd, true_and, and_true, jb0, jb01, jb1, jem, true_or, or_true, Classical.not_not, forall_const, List.length_cons, List.length_nil, Nat.reduceLeDiff, Nat.zero_le, Nat.reduceLT, hM, km_37_0 hM, km_37_1 hM, km_37_2 hM, km_37_3 hM, km_37_4 hM, km_37_5 hM, km_37_6 hM, km_37_7 hM, km_37_8 hM, km_37_9 hM, km_37_10 hM, km_37_11 hM, km_37_12 hM, km_37_13 hM, km_37_14 hM, km_37_15 hM, km_37_16 hM, km_37_17 hM, km_37_18 hM, km_37_19 hM, km_37_20 hM, km_37_21 hM, km_37_22 hM, km_37_23 hM, km_37_24 hM, km_37_25 hM, km_37_26 hM, km_37_27 hM, km_37_28 hM, km_37_29 hM, km_37_30 hM, km_37_31 hM, km_37_32 hM, kmo_37 hM, kma_38 hM, kma_39 hM, kma_40 hM, kma_41 hM, kma_42 hM, kma_43 hM, kma_44 hM, kma_45 hM, kma_46 hM, kma_47 hM, kma_48 hM, kma_49 hM, kma_50 hM, kma_52 hM, kma_53 hM, kma_54 hM, kma_55 hM, kma_56 hM, kma_51 hM]
          rw [e57, ← hg2]
          have h2 := outer 4 0 (by omega) none
          rw [mRst_0] at h2
          exact ⟨fun _ => h2, fun q => absurd (Int32.le_refl _) q⟩
        | succ m ih =>
          intro i hi
          have h2 := ih (i + 1) (by omega)
          have hv : vp_in (nI i) 57600 := vp_in_nI (by omega) (by decide)
          refine H39 60 _ _ _ _ _ _ ?_
          simp only [sg_X7_floor_0, sg_X7_floor_19, sg_X7_floor_21, sg_X7_floor_39, sg_X7_floor_68, sg_X7_floor_71, sg_X7_floor_80, sg_X7_floor_110, sg_X7_floor_116, sg_X7_floor_123, sg_X7_floor_129, cd_X7_floor, jwp, o_ic, o_lc, o_iload, o_lload, o_aload, o_istore, o_lstore, o_astore, o_iinc, o_pop, o_dup, o_dup2, o_iadd, o_isub, o_imul, o_iand, o_ior, o_ishl, o_ladd, o_lmul, o_land, o_lor, o_idiv, o_irem, o_ineg, o_i2l, o_l2i, o_i2b, o_i2s, o_lushr, o_lshr, o_lshl, o_lcmp, o_ifeq, o_ifne, o_iflt, o_ifge, o_ifgt, o_ifle, o_iceq, o_icne, o_iclt, o_icge, o_icgt, o_icle, o_goto, o_tsw, jsw, o_lsw, jlk, o_getf, o_putf, o_putz, o_iald, o_zald, o_iast, o_zast, o_aald, o_alen, o_gets, o_zld, o_zlen, o_cpy, o_call, o_callV, o_ireti, o_iretz, o_lret, o_vret, jg, js, jkp, jkill, jsp, jcs, jfw, jov, Value.category, Option.toList_some, Option.toList_none, List.nil_append, List.cons_append, List.append_nil, Nat.reduceAdd, true_and, and_true, jb0, jb01, jb1, jem, true_or, or_true, Classical.not_not, forall_const, List.length_cons, List.length_nil, Nat.reduceLeDiff, Nat.zero_le, Nat.reduceLT, hM, km_37_0 hM, km_37_1 hM, km_37_2 hM, km_37_3 hM, km_37_4 hM, km_37_5 hM, km_37_6 hM, km_37_7 hM, km_37_8 hM, km_37_9 hM, km_37_10 hM, km_37_11 hM, km_37_12 hM, km_37_13 hM, km_37_14 hM, km_37_15 hM, km_37_16 hM, km_37_17 hM, km_37_18 hM, km_37_19 hM, km_37_20 hM, km_37_21 hM, km_37_22 hM, km_37_23 hM, km_37_24 hM, km_37_25 hM, km_37_26 hM, km_37_27 hM, km_37_28 hM, km_37_29 hM, km_37_30 hM, km_37_31 hM, km_37_32 hM, kmo_37 hM, kma_38 hM, kma_39 hM, kma_40 hM, kma_41 hM, kma_42 hM, kma_43 hM, kma_44 hM, kma_45 hM, kma_46 hM, kma_47 hM, kma_48 hM, kma_49 hM, kma_50 hM, kma_52 hM, kma_53 hM, kma_54 hM, kma_55 hM, kma_56 hM, kma_51 hM, hv]
          rw [e57, nI_clamp (by omega), nI_1]
          refine ⟨fun q => absurd ((nI_leI (by omega) (by omega)).mp q) (by omega), fun _ => ?_⟩
          have es : up2 (up2 (upr (upr g 38 (jfill i 0 (g 38))) 39 (jfill i 0 (g 39))) 38 i 0) 39 i 0 = upr (upr g 38 (jfill (i + 1) 0 (g 38))) 39 (jfill (i + 1) 0 (g 39)) := by
            funext a b
            by_cases a9 : a = 39
            · subst a9
              rw [up2_s, up2_n (by decide), upr_s, upr_s, jfill_s]
            · rw [up2_n a9]
              by_cases a8 : a = 38
              · subst a8
                rw [up2_s, upr_n (by decide), upr_s, upr_n (by decide), upr_s, jfill_s]
              · rw [up2_n a8, upr_n a9, upr_n a8, upr_n a9, upr_n a8]
          rw [es]
          exact h2
      refine H0 60 _ _ _ _ _ _ ?_
      simp only [sg_X7_floor_0, sg_X7_floor_19, sg_X7_floor_21, sg_X7_floor_39, sg_X7_floor_68, sg_X7_floor_71, sg_X7_floor_80, sg_X7_floor_110, sg_X7_floor_116, sg_X7_floor_123, sg_X7_floor_129, cd_X7_floor, jwp, o_ic, o_lc, o_iload, o_lload, o_aload, o_istore, o_lstore, o_astore, o_iinc, o_pop, o_dup, o_dup2, o_iadd, o_isub, o_imul, o_iand, o_ior, o_ishl, o_ladd, o_lmul, o_land, o_lor, o_idiv, o_irem, o_ineg, o_i2l, o_l2i, o_i2b, o_i2s, o_lushr, o_lshr, o_lshl, o_lcmp, o_ifeq, o_ifne, o_iflt, o_ifge, o_ifgt, o_ifle, o_iceq, o_icne, o_iclt, o_icge, o_icgt, o_icle, o_goto, o_tsw, jsw, o_lsw, jlk, o_getf, o_putf, o_putz, o_iald, o_zald, o_iast, o_zast, o_aald, o_alen, o_gets, o_zld, o_zlen, o_cpy, o_call, o_callV, o_ireti, o_iretz, o_lret, o_vret, jg, js, jkp, jkill, jsp, jcs, jfw, jov, Value.category, Option.toList_some, Option.toList_none, List.nil_append, List.cons_append, List.append_nil, Nat.reduceAdd, true_and, and_true, jb0, jb01, jb1, jem, true_or, or_true, Classical.not_not, forall_const, List.length_cons, List.length_nil, Nat.reduceLeDiff, Nat.zero_le, Nat.reduceLT, and_self, not_true_eq_false, not_false_eq_true, false_imp_iff, true_imp_iff, implies_true, and_false, false_and, or_false, false_or, hM, km_37_0 hM, km_37_1 hM, km_37_2 hM, km_37_3 hM, km_37_4 hM, km_37_5 hM, km_37_6 hM, km_37_7 hM, km_37_8 hM, km_37_9 hM, km_37_10 hM, km_37_11 hM, km_37_12 hM, km_37_13 hM, km_37_14 hM, km_37_15 hM, km_37_16 hM, km_37_17 hM, km_37_18 hM, km_37_19 hM, km_37_20 hM, km_37_21 hM, km_37_22 hM, km_37_23 hM, km_37_24 hM, km_37_25 hM, km_37_26 hM, km_37_27 hM, km_37_28 hM, km_37_29 hM, km_37_30 hM, km_37_31 hM, km_37_32 hM, kmo_37 hM, kma_38 hM, kma_39 hM, kma_40 hM, kma_41 hM, kma_42 hM, kma_43 hM, kma_44 hM, kma_45 hM, kma_46 hM, kma_47 hM, kma_48 hM, kma_49 hM, kma_50 hM, kma_52 hM, kma_53 hM, kma_54 hM, kma_55 hM, kma_56 hM, kma_51 hM, T_X7_in, c1, c2, ← hg]
      have h2 := first 57600 0 (by omega)
      rw [jfill_0, jfill_0, upr_self, upr_self] at h2
      exact h2
    · have hT0 := hT0 (fun z => c2 z.2)
      refine H0 60 _ _ _ _ _ _ ?_
      simp only [sg_X7_floor_0, sg_X7_floor_19, sg_X7_floor_21, sg_X7_floor_39, sg_X7_floor_68, sg_X7_floor_71, sg_X7_floor_80, sg_X7_floor_110, sg_X7_floor_116, sg_X7_floor_123, sg_X7_floor_129, cd_X7_floor, jwp, o_ic, o_lc, o_iload, o_lload, o_aload, o_istore, o_lstore, o_astore, o_iinc, o_pop, o_dup, o_dup2, o_iadd, o_isub, o_imul, o_iand, o_ior, o_ishl, o_ladd, o_lmul, o_land, o_lor, o_idiv, o_irem, o_ineg, o_i2l, o_l2i, o_i2b, o_i2s, o_lushr, o_lshr, o_lshl, o_lcmp, o_ifeq, o_ifne, o_iflt, o_ifge, o_ifgt, o_ifle, o_iceq, o_icne, o_iclt, o_icge, o_icgt, o_icle, o_goto, o_tsw, jsw, o_lsw, jlk, o_getf, o_putf, o_putz, o_iald, o_zald, o_iast, o_zast, o_aald, o_alen, o_gets, o_zld, o_zlen, o_cpy, o_call, o_callV, o_ireti, o_iretz, o_lret, o_vret, jg, js, jkp, jkill, jsp, jcs, jfw, jov, Value.category, Option.toList_some, Option.toList_none, List.nil_append, List.cons_append, List.append_nil, Nat.reduceAdd, true_and, and_true, jb0, jb01, jb1, jem, true_or, or_true, Classical.not_not, forall_const, List.length_cons, List.length_nil, Nat.reduceLeDiff, Nat.zero_le, Nat.reduceLT, and_self, not_true_eq_false, not_false_eq_true, false_imp_iff, true_imp_iff, implies_true, and_false, false_and, or_false, false_or, hM, km_37_0 hM, km_37_1 hM, km_37_2 hM, km_37_3 hM, km_37_4 hM, km_37_5 hM, km_37_6 hM, km_37_7 hM, km_37_8 hM, km_37_9 hM, km_37_10 hM, km_37_11 hM, km_37_12 hM, km_37_13 hM, km_37_14 hM, km_37_15 hM, km_37_16 hM, km_37_17 hM, km_37_18 hM, km_37_19 hM, km_37_20 hM, km_37_21 hM, km_37_22 hM, km_37_23 hM, km_37_24 hM, km_37_25 hM, km_37_26 hM, km_37_27 hM, km_37_28 hM, km_37_29 hM, km_37_30 hM, km_37_31 hM, km_37_32 hM, kmo_37 hM, kma_38 hM, kma_39 hM, kma_40 hM, kma_41 hM, kma_42 hM, kma_43 hM, kma_44 hM, kma_45 hM, kma_46 hM, kma_47 hM, kma_48 hM, kma_49 hM, kma_50 hM, kma_52 hM, kma_53 hM, kma_54 hM, kma_55 hM, kma_56 hM, kma_51 hM, T_X7_in, c1, c2]
      exact hT0
  · have hT0 := hT0 (fun z => c1 z.1)
    refine H0 60 _ _ _ _ _ _ ?_
    simp only [sg_X7_floor_0, sg_X7_floor_19, sg_X7_floor_21, sg_X7_floor_39, sg_X7_floor_68, sg_X7_floor_71, sg_X7_floor_80, sg_X7_floor_110, sg_X7_floor_116, sg_X7_floor_123, sg_X7_floor_129, cd_X7_floor, jwp, o_ic, o_lc, o_iload, o_lload, o_aload, o_istore, o_lstore, o_astore, o_iinc, o_pop, o_dup, o_dup2, o_iadd, o_isub, o_imul, o_iand, o_ior, o_ishl, o_ladd, o_lmul, o_land, o_lor, o_idiv, o_irem, o_ineg, o_i2l, o_l2i, o_i2b, o_i2s, o_lushr, o_lshr, o_lshl, o_lcmp, o_ifeq, o_ifne, o_iflt, o_ifge, o_ifgt, o_ifle, o_iceq, o_icne, o_iclt, o_icge, o_icgt, o_icle, o_goto, o_tsw, jsw, o_lsw, jlk, o_getf, o_putf, o_putz, o_iald, o_zald, o_iast, o_zast, o_aald, o_alen, o_gets, o_zld, o_zlen, o_cpy, o_call, o_callV, o_ireti, o_iretz, o_lret, o_vret, jg, js, jkp, jkill, jsp, jcs, jfw, jov, Value.category, Option.toList_some, Option.toList_none, List.nil_append, List.cons_append, List.append_nil, Nat.reduceAdd, true_and, and_true, jb0, jb01, jb1, jem, true_or, or_true, Classical.not_not, forall_const, List.length_cons, List.length_nil, Nat.reduceLeDiff, Nat.zero_le, Nat.reduceLT, and_self, not_true_eq_false, not_false_eq_true, false_imp_iff, true_imp_iff, implies_true, and_false, false_and, or_false, false_or, hM, km_37_0 hM, km_37_1 hM, km_37_2 hM, km_37_3 hM, km_37_4 hM, km_37_5 hM, km_37_6 hM, km_37_7 hM, km_37_8 hM, km_37_9 hM, km_37_10 hM, km_37_11 hM, km_37_12 hM, km_37_13 hM, km_37_14 hM, km_37_15 hM, km_37_16 hM, km_37_17 hM, km_37_18 hM, km_37_19 hM, km_37_20 hM, km_37_21 hM, km_37_22 hM, km_37_23 hM, km_37_24 hM, km_37_25 hM, km_37_26 hM, km_37_27 hM, km_37_28 hM, km_37_29 hM, km_37_30 hM, km_37_31 hM, km_37_32 hM, kmo_37 hM, kma_38 hM, kma_39 hM, kma_40 hM, kma_41 hM, kma_42 hM, kma_43 hM, kma_44 hM, kma_45 hM, kma_46 hM, kma_47 hM, kma_48 hM, kma_49 hM, kma_50 hM, kma_52 hM, kma_53 hM, kma_54 hM, kma_55 hM, kma_56 hM, kma_51 hM, T_X7_in, c1]
    exact hT0
theorem m_X7_floor (l : Launch) : jHolds vwCl l yX7_floor wsX7_floor 1 22 0 0 T_X7_floor := by
  refine m_X7_floor_of l (fun G Q vs K h H0 H39 H71 H80 hT => ?_)
  unfold T_X7_floor at hT
  split at hT
  · obtain ⟨rfl, hT⟩ := hT
    exact ⟨Nat.le_of_ble_eq_true rfl, v_X7_floor hT H0 H39 H71 H80⟩
  · exact hT.elim
