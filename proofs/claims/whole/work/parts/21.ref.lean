/-! X7_stepsBack -/
def T_X7_stepsBack : jT := fun vs K h Q => match vs with
  | [.ref r0] => r0 = 37 ∧ (jXM K ∧ (∃ cnt : Nat, cnt ≤ 6 ∧ h 37 8 = nI cnt ∧ (h 37 0 = 0 ∨ h 37 0 = 1) ∧ aVal (mQ h) (mS h) cnt ∧ (aBAll (mQ h) (mS h) cnt → ∀ g, mS g = aBks (mQ h) (mS h) cnt cnt → mQ g = mQ h → frM h g → (∀ b, b < cnt → g 46 b = nI (aBPl (mQ h) (mS h) cnt b)) → Q (some (.int 1)) K (up2 (up2 (mVb (aBPl (mQ h) (mS h) cnt) g cnt) 37 4 (mVb (aBPl (mQ h) (mS h) cnt) g cnt 37 4 - 1)) 37 21 1)) ∧ (¬ aBAll (mQ h) (mS h) cnt → ∀ g, mS g = mS h → mQ g = mQ h → frM h g → Q (some (.int 0)) K g)))
  | _ => False
def sg_X7_stepsBack_0 : jS := [(o_aload 0, 1), (o_getf 7 8, 3), (o_ic (1), 1), (o_isub, 1), (o_istore 1, 1)]
def sg_X7_stepsBack_7 : jS := [(o_iload 1, 1), (o_iflt 25, 3), (o_aload 0, 1), (o_iload 1, 1), (o_callV 2 7 T_X7_actsBack, 3), (o_ifeq 25, 3), (o_iinc 1 (-1), 3), (o_goto 7, 3)]
def sg_X7_stepsBack_25 : jS := [(o_iload 1, 1), (o_iflt 55, 3), (o_iload 1, 1), (o_ic (1), 1), (o_iadd, 1), (o_istore 2, 1)]
def sg_X7_stepsBack_33 : jS := [(o_iload 2, 1), (o_aload 0, 1), (o_getf 7 8, 3), (o_icge 53, 3), (o_aload 0, 1), (o_iload 2, 1), (o_callV 2 7 T_X7_acts, 3), (o_istore 3, 1)]
def sg_X7_stepsBack_47 : jS := [(o_iinc 2 (1), 3), (o_goto 33, 3)]
def sg_X7_stepsBack_53 : jS := [(o_ic (0), 1), (o_iretz, 1)]
def sg_X7_stepsBack_55 : jS := [(o_ic (0), 1), (o_istore 2, 1)]
def sg_X7_stepsBack_57 : jS := [(o_iload 2, 1), (o_aload 0, 1), (o_getf 7 8, 3), (o_icge 86, 3), (o_aload 0, 1), (o_getf 7 3, 3), (o_aload 0, 1), (o_getf 7 13, 3), (o_iload 2, 1), (o_iald, 1), (o_dup2, 1), (o_iald, 1), (o_ic (1), 1), (o_isub, 1), (o_iast, 1), (o_iinc 2 (1), 3), (o_goto 57, 3)]
def sg_X7_stepsBack_86 : jS := [(o_aload 0, 1), (o_dup, 1), (o_getf 7 4, 3), (o_ic (1), 1), (o_isub, 1), (o_putf 7 4, 3), (o_aload 0, 1), (o_ic (1), 1), (o_putz 7 21, 3), (o_ic (1), 1), (o_iretz, 1)]
def cd_X7_stepsBack : Nat → jS := fun t => match t with
  | 25 => sg_X7_stepsBack_25
  | 53 => sg_X7_stepsBack_53
  | 55 => sg_X7_stepsBack_55
  | 86 => sg_X7_stepsBack_86
  | _ => []
theorem wl_X7_stepsBack_18 : Cond.fieldLink RX7 18 (TX7 3).1 (TX7 3).2.1 (TX7 3).2.2.1 ∈ wsX7_stepsBack := by decide +kernel
theorem wl_X7_stepsBack_39 : Cond.fieldLink RX7 39 (TX7 13).1 (TX7 13).2.1 (TX7 13).2.2.1 ∈ wsX7_stepsBack := by decide +kernel
theorem wl_X7_stepsBack_81 : Cond.fieldLink RX7 81 (TX7 8).1 (TX7 8).2.1 (TX7 8).2.2.1 ∈ wsX7_stepsBack := by decide +kernel
theorem wl_X7_stepsBack_91 : Cond.fieldLink RX7 91 (TX7 4).1 (TX7 4).2.1 (TX7 4).2.2.1 ∈ wsX7_stepsBack := by decide +kernel
theorem wl_X7_stepsBack_136 : Cond.fieldLink RX7 136 (TX7 21).1 (TX7 21).2.1 (TX7 21).2.2.1 ∈ wsX7_stepsBack := by decide +kernel
theorem wi_X7_stepsBack_X7 : ∀ w ∈ u_ws RX7 TX7 33, w ∈ wsX7_stepsBack := by decide +kernel
def E_X7_stepsBack (Γ : jΓ) (Q : jPost) : Prop := Γ.2.2.2.2.2.2.2.2.2.2.1 = 4 ∧ Γ.2.2.2.2.2.2.2.2.2.2.2.1 = vwCl ∧ jC Γ cX7_stepsBack RX7 "stepsBack" (some .boolean) wsX7_stepsBack 3 69 0 0 ∧ jR Γ Q 0 0
theorem oo_X7_stepsBack_0 {Γ : jΓ} {Q : jPost} (E : E_X7_stepsBack Γ Q) : jSA Γ Q 0 (o_aload 0) 1 := so_aload_n E.2.2.1 rfl dX7_stepsBack_0
theorem oo_X7_stepsBack_1 {Γ : jΓ} {Q : jPost} (E : E_X7_stepsBack Γ Q) : jSA Γ Q 1 (o_getf 7 8) 3 := so_getf (ci := 7) E.2.2.1 wi_X7_stepsBack_X7 (by rw [E.2.1]; rfl) 8 (by decide) wl_X7_stepsBack_81 dX7_stepsBack_1
theorem oo_X7_stepsBack_4 {Γ : jΓ} {Q : jPost} (E : E_X7_stepsBack Γ Q) : jSA Γ Q 4 (o_ic (1)) 1 := so_iconst E.2.2.1 rfl dX7_stepsBack_4
theorem oo_X7_stepsBack_5 {Γ : jΓ} {Q : jPost} (E : E_X7_stepsBack Γ Q) : jSA Γ Q 5 (o_isub) 1 := so_isub E.2.2.1 dX7_stepsBack_5
theorem oo_X7_stepsBack_6 {Γ : jΓ} {Q : jPost} (E : E_X7_stepsBack Γ Q) : jSA Γ Q 6 (o_istore 1) 1 := so_istore_n E.2.2.1 rfl (by rw [E.1]; decide) dX7_stepsBack_6
theorem oo_X7_stepsBack_7 {Γ : jΓ} {Q : jPost} (E : E_X7_stepsBack Γ Q) : jSA Γ Q 7 (o_iload 1) 1 := so_iload_n E.2.2.1 rfl dX7_stepsBack_7
theorem oo_X7_stepsBack_8 {Γ : jΓ} {Q : jPost} (E : E_X7_stepsBack Γ Q) : jSA Γ Q 8 (o_iflt 25) 3 := so_iflt E.2.2.1 (by decide) dX7_stepsBack_8
theorem oo_X7_stepsBack_11 {Γ : jΓ} {Q : jPost} (E : E_X7_stepsBack Γ Q) : jSA Γ Q 11 (o_aload 0) 1 := so_aload_n E.2.2.1 rfl dX7_stepsBack_11
theorem oo_X7_stepsBack_12 {Γ : jΓ} {Q : jPost} (E : E_X7_stepsBack Γ Q) : jSA Γ Q 12 (o_iload 1) 1 := so_iload_n E.2.2.1 rfl dX7_stepsBack_12
theorem oo_X7_stepsBack_13 {Γ : jΓ} {Q : jPost} (E : E_X7_stepsBack Γ Q) : jSA Γ Q 13 (o_callV 2 7 T_X7_actsBack) 3 := so_callV E.2.2.1 (ci := 7) (by rw [E.2.1]; rfl) gX7_stepsBack_X7_actsBack (by decide +kernel) rfl (by rw [E.2.1]; exact m_X7_actsBack _) (by decide) (by decide) dX7_stepsBack_13
theorem oo_X7_stepsBack_16 {Γ : jΓ} {Q : jPost} (E : E_X7_stepsBack Γ Q) : jSA Γ Q 16 (o_ifeq 25) 3 := so_ifeq E.2.2.1 (by decide) dX7_stepsBack_16
theorem oo_X7_stepsBack_19 {Γ : jΓ} {Q : jPost} (E : E_X7_stepsBack Γ Q) : jSA Γ Q 19 (o_iinc 1 (-1)) 3 := so_iinc E.2.2.1 rfl (by rw [E.1]; decide) dX7_stepsBack_19
theorem oo_X7_stepsBack_22 {Γ : jΓ} {Q : jPost} (E : E_X7_stepsBack Γ Q) : jSA Γ Q 22 (o_goto 7) 3 := so_goto E.2.2.1 (by decide) dX7_stepsBack_22
theorem oo_X7_stepsBack_25 {Γ : jΓ} {Q : jPost} (E : E_X7_stepsBack Γ Q) : jSA Γ Q 25 (o_iload 1) 1 := so_iload_n E.2.2.1 rfl dX7_stepsBack_25
theorem oo_X7_stepsBack_26 {Γ : jΓ} {Q : jPost} (E : E_X7_stepsBack Γ Q) : jSA Γ Q 26 (o_iflt 55) 3 := so_iflt E.2.2.1 (by decide) dX7_stepsBack_26
theorem oo_X7_stepsBack_29 {Γ : jΓ} {Q : jPost} (E : E_X7_stepsBack Γ Q) : jSA Γ Q 29 (o_iload 1) 1 := so_iload_n E.2.2.1 rfl dX7_stepsBack_29
theorem oo_X7_stepsBack_30 {Γ : jΓ} {Q : jPost} (E : E_X7_stepsBack Γ Q) : jSA Γ Q 30 (o_ic (1)) 1 := so_iconst E.2.2.1 rfl dX7_stepsBack_30
theorem oo_X7_stepsBack_31 {Γ : jΓ} {Q : jPost} (E : E_X7_stepsBack Γ Q) : jSA Γ Q 31 (o_iadd) 1 := so_iadd E.2.2.1 dX7_stepsBack_31
theorem oo_X7_stepsBack_32 {Γ : jΓ} {Q : jPost} (E : E_X7_stepsBack Γ Q) : jSA Γ Q 32 (o_istore 2) 1 := so_istore_n E.2.2.1 rfl (by rw [E.1]; decide) dX7_stepsBack_32
theorem oo_X7_stepsBack_33 {Γ : jΓ} {Q : jPost} (E : E_X7_stepsBack Γ Q) : jSA Γ Q 33 (o_iload 2) 1 := so_iload_n E.2.2.1 rfl dX7_stepsBack_33
theorem oo_X7_stepsBack_34 {Γ : jΓ} {Q : jPost} (E : E_X7_stepsBack Γ Q) : jSA Γ Q 34 (o_aload 0) 1 := so_aload_n E.2.2.1 rfl dX7_stepsBack_34
theorem oo_X7_stepsBack_35 {Γ : jΓ} {Q : jPost} (E : E_X7_stepsBack Γ Q) : jSA Γ Q 35 (o_getf 7 8) 3 := so_getf (ci := 7) E.2.2.1 wi_X7_stepsBack_X7 (by rw [E.2.1]; rfl) 8 (by decide) wl_X7_stepsBack_81 dX7_stepsBack_35
theorem oo_X7_stepsBack_38 {Γ : jΓ} {Q : jPost} (E : E_X7_stepsBack Γ Q) : jSA Γ Q 38 (o_icge 53) 3 := so_icge E.2.2.1 (by decide) dX7_stepsBack_38
theorem oo_X7_stepsBack_41 {Γ : jΓ} {Q : jPost} (E : E_X7_stepsBack Γ Q) : jSA Γ Q 41 (o_aload 0) 1 := so_aload_n E.2.2.1 rfl dX7_stepsBack_41
theorem oo_X7_stepsBack_42 {Γ : jΓ} {Q : jPost} (E : E_X7_stepsBack Γ Q) : jSA Γ Q 42 (o_iload 2) 1 := so_iload_n E.2.2.1 rfl dX7_stepsBack_42
theorem oo_X7_stepsBack_43 {Γ : jΓ} {Q : jPost} (E : E_X7_stepsBack Γ Q) : jSA Γ Q 43 (o_callV 2 7 T_X7_acts) 3 := so_callV E.2.2.1 (ci := 7) (by rw [E.2.1]; rfl) gX7_stepsBack_X7_acts (by decide +kernel) rfl (by rw [E.2.1]; exact m_X7_acts _) (by decide) (by decide) dX7_stepsBack_43
theorem oo_X7_stepsBack_46 {Γ : jΓ} {Q : jPost} (E : E_X7_stepsBack Γ Q) : jSA Γ Q 46 (o_istore 3) 1 := so_istore_n E.2.2.1 rfl (by rw [E.1]; decide) dX7_stepsBack_46
theorem oo_X7_stepsBack_47 {Γ : jΓ} {Q : jPost} (E : E_X7_stepsBack Γ Q) : jSA Γ Q 47 (o_iinc 2 (1)) 3 := so_iinc E.2.2.1 rfl (by rw [E.1]; decide) dX7_stepsBack_47
theorem oo_X7_stepsBack_50 {Γ : jΓ} {Q : jPost} (E : E_X7_stepsBack Γ Q) : jSA Γ Q 50 (o_goto 33) 3 := so_goto E.2.2.1 (by decide) dX7_stepsBack_50
theorem oo_X7_stepsBack_53 {Γ : jΓ} {Q : jPost} (E : E_X7_stepsBack Γ Q) : jSA Γ Q 53 (o_ic (0)) 1 := so_iconst E.2.2.1 rfl dX7_stepsBack_53
theorem oo_X7_stepsBack_54 {Γ : jΓ} {Q : jPost} (E : E_X7_stepsBack Γ Q) : jSA Γ Q 54 (o_iretz) 1 := so_iretz E.2.2.1 E.2.2.2 dX7_stepsBack_54
theorem oo_X7_stepsBack_55 {Γ : jΓ} {Q : jPost} (E : E_X7_stepsBack Γ Q) : jSA Γ Q 55 (o_ic (0)) 1 := so_iconst E.2.2.1 rfl dX7_stepsBack_55
theorem oo_X7_stepsBack_56 {Γ : jΓ} {Q : jPost} (E : E_X7_stepsBack Γ Q) : jSA Γ Q 56 (o_istore 2) 1 := so_istore_n E.2.2.1 rfl (by rw [E.1]; decide) dX7_stepsBack_56
theorem oo_X7_stepsBack_57 {Γ : jΓ} {Q : jPost} (E : E_X7_stepsBack Γ Q) : jSA Γ Q 57 (o_iload 2) 1 := so_iload_n E.2.2.1 rfl dX7_stepsBack_57
theorem oo_X7_stepsBack_58 {Γ : jΓ} {Q : jPost} (E : E_X7_stepsBack Γ Q) : jSA Γ Q 58 (o_aload 0) 1 := so_aload_n E.2.2.1 rfl dX7_stepsBack_58
theorem oo_X7_stepsBack_59 {Γ : jΓ} {Q : jPost} (E : E_X7_stepsBack Γ Q) : jSA Γ Q 59 (o_getf 7 8) 3 := so_getf (ci := 7) E.2.2.1 wi_X7_stepsBack_X7 (by rw [E.2.1]; rfl) 8 (by decide) wl_X7_stepsBack_81 dX7_stepsBack_59
theorem oo_X7_stepsBack_62 {Γ : jΓ} {Q : jPost} (E : E_X7_stepsBack Γ Q) : jSA Γ Q 62 (o_icge 86) 3 := so_icge E.2.2.1 (by decide) dX7_stepsBack_62
theorem oo_X7_stepsBack_65 {Γ : jΓ} {Q : jPost} (E : E_X7_stepsBack Γ Q) : jSA Γ Q 65 (o_aload 0) 1 := so_aload_n E.2.2.1 rfl dX7_stepsBack_65
theorem oo_X7_stepsBack_66 {Γ : jΓ} {Q : jPost} (E : E_X7_stepsBack Γ Q) : jSA Γ Q 66 (o_getf 7 3) 3 := so_getf (ci := 7) E.2.2.1 wi_X7_stepsBack_X7 (by rw [E.2.1]; rfl) 3 (by decide) wl_X7_stepsBack_18 dX7_stepsBack_66
theorem oo_X7_stepsBack_69 {Γ : jΓ} {Q : jPost} (E : E_X7_stepsBack Γ Q) : jSA Γ Q 69 (o_aload 0) 1 := so_aload_n E.2.2.1 rfl dX7_stepsBack_69
theorem oo_X7_stepsBack_70 {Γ : jΓ} {Q : jPost} (E : E_X7_stepsBack Γ Q) : jSA Γ Q 70 (o_getf 7 13) 3 := so_getf (ci := 7) E.2.2.1 wi_X7_stepsBack_X7 (by rw [E.2.1]; rfl) 13 (by decide) wl_X7_stepsBack_39 dX7_stepsBack_70
theorem oo_X7_stepsBack_73 {Γ : jΓ} {Q : jPost} (E : E_X7_stepsBack Γ Q) : jSA Γ Q 73 (o_iload 2) 1 := so_iload_n E.2.2.1 rfl dX7_stepsBack_73
theorem oo_X7_stepsBack_74 {Γ : jΓ} {Q : jPost} (E : E_X7_stepsBack Γ Q) : jSA Γ Q 74 (o_iald) 1 := so_iald E.2.2.1 dX7_stepsBack_74
theorem oo_X7_stepsBack_75 {Γ : jΓ} {Q : jPost} (E : E_X7_stepsBack Γ Q) : jSA Γ Q 75 (o_dup2) 1 := so_dup2 E.2.2.1 dX7_stepsBack_75
theorem oo_X7_stepsBack_76 {Γ : jΓ} {Q : jPost} (E : E_X7_stepsBack Γ Q) : jSA Γ Q 76 (o_iald) 1 := so_iald E.2.2.1 dX7_stepsBack_76
theorem oo_X7_stepsBack_77 {Γ : jΓ} {Q : jPost} (E : E_X7_stepsBack Γ Q) : jSA Γ Q 77 (o_ic (1)) 1 := so_iconst E.2.2.1 rfl dX7_stepsBack_77
theorem oo_X7_stepsBack_78 {Γ : jΓ} {Q : jPost} (E : E_X7_stepsBack Γ Q) : jSA Γ Q 78 (o_isub) 1 := so_isub E.2.2.1 dX7_stepsBack_78
theorem oo_X7_stepsBack_79 {Γ : jΓ} {Q : jPost} (E : E_X7_stepsBack Γ Q) : jSA Γ Q 79 (o_iast) 1 := so_iast E.2.2.1 dX7_stepsBack_79
theorem oo_X7_stepsBack_80 {Γ : jΓ} {Q : jPost} (E : E_X7_stepsBack Γ Q) : jSA Γ Q 80 (o_iinc 2 (1)) 3 := so_iinc E.2.2.1 rfl (by rw [E.1]; decide) dX7_stepsBack_80
theorem oo_X7_stepsBack_83 {Γ : jΓ} {Q : jPost} (E : E_X7_stepsBack Γ Q) : jSA Γ Q 83 (o_goto 57) 3 := so_goto E.2.2.1 (by decide) dX7_stepsBack_83
theorem oo_X7_stepsBack_86 {Γ : jΓ} {Q : jPost} (E : E_X7_stepsBack Γ Q) : jSA Γ Q 86 (o_aload 0) 1 := so_aload_n E.2.2.1 rfl dX7_stepsBack_86
theorem oo_X7_stepsBack_87 {Γ : jΓ} {Q : jPost} (E : E_X7_stepsBack Γ Q) : jSA Γ Q 87 (o_dup) 1 := so_dup E.2.2.1 dX7_stepsBack_87
theorem oo_X7_stepsBack_88 {Γ : jΓ} {Q : jPost} (E : E_X7_stepsBack Γ Q) : jSA Γ Q 88 (o_getf 7 4) 3 := so_getf (ci := 7) E.2.2.1 wi_X7_stepsBack_X7 (by rw [E.2.1]; rfl) 4 (by decide) wl_X7_stepsBack_91 dX7_stepsBack_88
theorem oo_X7_stepsBack_91 {Γ : jΓ} {Q : jPost} (E : E_X7_stepsBack Γ Q) : jSA Γ Q 91 (o_ic (1)) 1 := so_iconst E.2.2.1 rfl dX7_stepsBack_91
theorem oo_X7_stepsBack_92 {Γ : jΓ} {Q : jPost} (E : E_X7_stepsBack Γ Q) : jSA Γ Q 92 (o_isub) 1 := so_isub E.2.2.1 dX7_stepsBack_92
theorem oo_X7_stepsBack_93 {Γ : jΓ} {Q : jPost} (E : E_X7_stepsBack Γ Q) : jSA Γ Q 93 (o_putf 7 4) 3 := so_putf (ci := 7) E.2.2.1 tyX7 tyX7_ok nmX7 wi_X7_stepsBack_X7 (by rw [E.2.1]; rfl) 4 (by decide) wl_X7_stepsBack_91 rfl (by decide +kernel) dX7_stepsBack_93
theorem oo_X7_stepsBack_96 {Γ : jΓ} {Q : jPost} (E : E_X7_stepsBack Γ Q) : jSA Γ Q 96 (o_aload 0) 1 := so_aload_n E.2.2.1 rfl dX7_stepsBack_96
theorem oo_X7_stepsBack_97 {Γ : jΓ} {Q : jPost} (E : E_X7_stepsBack Γ Q) : jSA Γ Q 97 (o_ic (1)) 1 := so_iconst E.2.2.1 rfl dX7_stepsBack_97
theorem oo_X7_stepsBack_98 {Γ : jΓ} {Q : jPost} (E : E_X7_stepsBack Γ Q) : jSA Γ Q 98 (o_putz 7 21) 3 := so_putz (ci := 7) E.2.2.1 tyX7 tyX7_ok nmX7 wi_X7_stepsBack_X7 (by rw [E.2.1]; rfl) 21 (by decide) wl_X7_stepsBack_136 rfl (by decide +kernel) dX7_stepsBack_98
theorem oo_X7_stepsBack_101 {Γ : jΓ} {Q : jPost} (E : E_X7_stepsBack Γ Q) : jSA Γ Q 101 (o_ic (1)) 1 := so_iconst E.2.2.1 rfl dX7_stepsBack_101
theorem oo_X7_stepsBack_102 {Γ : jΓ} {Q : jPost} (E : E_X7_stepsBack Γ Q) : jSA Γ Q 102 (o_iretz) 1 := so_iretz E.2.2.1 E.2.2.2 dX7_stepsBack_102
theorem ok_X7_stepsBack_0 {Γ : jΓ} {Q : jPost} (E : E_X7_stepsBack Γ Q) : jSS Γ Q 0 sg_X7_stepsBack_0 := ⟨oo_X7_stepsBack_0 E, oo_X7_stepsBack_1 E, oo_X7_stepsBack_4 E, oo_X7_stepsBack_5 E, oo_X7_stepsBack_6 E, trivial⟩
theorem ok_X7_stepsBack_7 {Γ : jΓ} {Q : jPost} (E : E_X7_stepsBack Γ Q) : jSS Γ Q 7 sg_X7_stepsBack_7 := ⟨oo_X7_stepsBack_7 E, oo_X7_stepsBack_8 E, oo_X7_stepsBack_11 E, oo_X7_stepsBack_12 E, oo_X7_stepsBack_13 E, oo_X7_stepsBack_16 E, oo_X7_stepsBack_19 E, oo_X7_stepsBack_22 E, trivial⟩
theorem ok_X7_stepsBack_25 {Γ : jΓ} {Q : jPost} (E : E_X7_stepsBack Γ Q) : jSS Γ Q 25 sg_X7_stepsBack_25 := ⟨oo_X7_stepsBack_25 E, oo_X7_stepsBack_26 E, oo_X7_stepsBack_29 E, oo_X7_stepsBack_30 E, oo_X7_stepsBack_31 E, oo_X7_stepsBack_32 E, trivial⟩
theorem ok_X7_stepsBack_33 {Γ : jΓ} {Q : jPost} (E : E_X7_stepsBack Γ Q) : jSS Γ Q 33 sg_X7_stepsBack_33 := ⟨oo_X7_stepsBack_33 E, oo_X7_stepsBack_34 E, oo_X7_stepsBack_35 E, oo_X7_stepsBack_38 E, oo_X7_stepsBack_41 E, oo_X7_stepsBack_42 E, oo_X7_stepsBack_43 E, oo_X7_stepsBack_46 E, trivial⟩
theorem ok_X7_stepsBack_47 {Γ : jΓ} {Q : jPost} (E : E_X7_stepsBack Γ Q) : jSS Γ Q 47 sg_X7_stepsBack_47 := ⟨oo_X7_stepsBack_47 E, oo_X7_stepsBack_50 E, trivial⟩
theorem ok_X7_stepsBack_53 {Γ : jΓ} {Q : jPost} (E : E_X7_stepsBack Γ Q) : jSS Γ Q 53 sg_X7_stepsBack_53 := ⟨oo_X7_stepsBack_53 E, oo_X7_stepsBack_54 E, trivial⟩
theorem ok_X7_stepsBack_55 {Γ : jΓ} {Q : jPost} (E : E_X7_stepsBack Γ Q) : jSS Γ Q 55 sg_X7_stepsBack_55 := ⟨oo_X7_stepsBack_55 E, oo_X7_stepsBack_56 E, trivial⟩
theorem ok_X7_stepsBack_57 {Γ : jΓ} {Q : jPost} (E : E_X7_stepsBack Γ Q) : jSS Γ Q 57 sg_X7_stepsBack_57 := ⟨oo_X7_stepsBack_57 E, oo_X7_stepsBack_58 E, oo_X7_stepsBack_59 E, oo_X7_stepsBack_62 E, oo_X7_stepsBack_65 E, oo_X7_stepsBack_66 E, oo_X7_stepsBack_69 E, oo_X7_stepsBack_70 E, oo_X7_stepsBack_73 E, oo_X7_stepsBack_74 E, oo_X7_stepsBack_75 E, oo_X7_stepsBack_76 E, oo_X7_stepsBack_77 E, oo_X7_stepsBack_78 E, oo_X7_stepsBack_79 E, oo_X7_stepsBack_80 E, oo_X7_stepsBack_83 E, trivial⟩
theorem ok_X7_stepsBack_86 {Γ : jΓ} {Q : jPost} (E : E_X7_stepsBack Γ Q) : jSS Γ Q 86 sg_X7_stepsBack_86 := ⟨oo_X7_stepsBack_86 E, oo_X7_stepsBack_87 E, oo_X7_stepsBack_88 E, oo_X7_stepsBack_91 E, oo_X7_stepsBack_92 E, oo_X7_stepsBack_93 E, oo_X7_stepsBack_96 E, oo_X7_stepsBack_97 E, oo_X7_stepsBack_98 E, oo_X7_stepsBack_101 E, oo_X7_stepsBack_102 E, trivial⟩
theorem okc_X7_stepsBack {Γ : jΓ} {Q : jPost} (E : E_X7_stepsBack Γ Q) (t : Nat) : jSS Γ Q t (cd_X7_stepsBack t) := by
  unfold cd_X7_stepsBack
  split
  · exact ok_X7_stepsBack_25 E
  · exact ok_X7_stepsBack_53 E
  · exact ok_X7_stepsBack_55 E
  · exact ok_X7_stepsBack_86 E
  · trivial
theorem m_X7_stepsBack_of (l : Launch) (hv : ∀ (G : jGt) (Q : jPost) (vs : List Value) (K : List jK) (h : jM), jHd cd_X7_stepsBack G Q sg_X7_stepsBack_0 0 → jHd cd_X7_stepsBack G Q sg_X7_stepsBack_7 7 → jHd cd_X7_stepsBack G Q sg_X7_stepsBack_33 33 → jHd cd_X7_stepsBack G Q sg_X7_stepsBack_47 47 → jHd cd_X7_stepsBack G Q sg_X7_stepsBack_57 57 → T_X7_stepsBack vs K h Q → (lg_sl vs).length ≤ 4 ∧ G 0 (jinit vs 4) [] K h 0 0) : jHolds vwCl l yX7_stepsBack wsX7_stepsBack 3 69 0 0 T_X7_stepsBack := by
  refine jMet (cc := cX7_stepsBack) (maxL := 4) (rt := (some .boolean)) (by decide +kernel) rfl (fun Γ Q vs K h hl hn hcl C hR hT => hv (jG Γ) Q vs K h ?_ ?_ ?_ ?_ ?_ hT)
  · exact fun n L st K h ce sl => jwp_ok (okc_X7_stepsBack ⟨hn, hcl, C, hR⟩) n sg_X7_stepsBack_0 0 (ok_X7_stepsBack_0 ⟨hn, hcl, C, hR⟩) L st K h ce sl
  · exact fun n L st K h ce sl => jwp_ok (okc_X7_stepsBack ⟨hn, hcl, C, hR⟩) n sg_X7_stepsBack_7 7 (ok_X7_stepsBack_7 ⟨hn, hcl, C, hR⟩) L st K h ce sl
  · exact fun n L st K h ce sl => jwp_ok (okc_X7_stepsBack ⟨hn, hcl, C, hR⟩) n sg_X7_stepsBack_33 33 (ok_X7_stepsBack_33 ⟨hn, hcl, C, hR⟩) L st K h ce sl
  · exact fun n L st K h ce sl => jwp_ok (okc_X7_stepsBack ⟨hn, hcl, C, hR⟩) n sg_X7_stepsBack_47 47 (ok_X7_stepsBack_47 ⟨hn, hcl, C, hR⟩) L st K h ce sl
  · exact fun n L st K h ce sl => jwp_ok (okc_X7_stepsBack ⟨hn, hcl, C, hR⟩) n sg_X7_stepsBack_57 57 (ok_X7_stepsBack_57 ⟨hn, hcl, C, hR⟩) L st K h ce sl
set_option maxHeartbeats 4000000 in
set_option maxRecDepth 100000 in
theorem v_X7_stepsBack {G : jGt} {Q : jPost} {K : List jK} {h : jM}  (hT : jXM K ∧ (∃ cnt : Nat, cnt ≤ 6 ∧ h 37 8 = nI cnt ∧ (h 37 0 = 0 ∨ h 37 0 = 1) ∧ aVal (mQ h) (mS h) cnt ∧ (aBAll (mQ h) (mS h) cnt → ∀ g, mS g = aBks (mQ h) (mS h) cnt cnt → mQ g = mQ h → frM h g → (∀ b, b < cnt → g 46 b = nI (aBPl (mQ h) (mS h) cnt b)) → Q (some (.int 1)) K (up2 (up2 (mVb (aBPl (mQ h) (mS h) cnt) g cnt) 37 4 (mVb (aBPl (mQ h) (mS h) cnt) g cnt 37 4 - 1)) 37 21 1)) ∧ (¬ aBAll (mQ h) (mS h) cnt → ∀ g, mS g = mS h → mQ g = mQ h → frM h g → Q (some (.int 0)) K g))) (H0 : jHd cd_X7_stepsBack G Q sg_X7_stepsBack_0 0) (H7 : jHd cd_X7_stepsBack G Q sg_X7_stepsBack_7 7) (H33 : jHd cd_X7_stepsBack G Q sg_X7_stepsBack_33 33) (H47 : jHd cd_X7_stepsBack G Q sg_X7_stepsBack_47 47) (H57 : jHd cd_X7_stepsBack G Q sg_X7_stepsBack_57 57) : G 0 [some (.ref 37), none, none, none] [] K h 0 0 := by
  obtain ⟨hM, cnt, hc6, hcnt, hk, hv, hT1, hT0⟩ := hT
  have f37 : ∀ g, frM h g → g 37 = h 37 := fun g hf => hf 37 (by decide) (by decide) (by decide) (by decide) (by decide)
  have count : aBAll (mQ h) (mS h) cnt → ∀ g, mS g = aBks (mQ h) (mS h) cnt cnt → mQ g = mQ h → frM h g → (∀ b, b < cnt → g 46 b = nI (aBPl (mQ h) (mS h) cnt b)) → ∀ n k, k + n = cnt → ∀ x1 x3, G 57 [some (.ref 37), some (.int x1), some (.int (nI k)), x3] [] K (mVb (aBPl (mQ h) (mS h) cnt) g k) 0 0 := by
    intro hall g hS hQ hfr hbg n
    have hg37 := f37 g hfr
    induction n with
    | zero =>
      intro k hk2 x1 x3
      have : k = cnt := by omega
      subst this
      have e8 : mVb (aBPl (mQ h) (mS h) k) g k 37 8 = nI k := by rw [mVb_o _ _ _ (by decide), hg37, hcnt]
      have hT1 := hT1 hall g hS hQ hfr hbg
      refine H57 80 _ _ _ _ _ _ ?_
      simp only [sg_X7_stepsBack_0, sg_X7_stepsBack_7, sg_X7_stepsBack_25, sg_X7_stepsBack_33, sg_X7_stepsBack_47, sg_X7_stepsBack_53, sg_X7_stepsBack_55, sg_X7_stepsBack_57, sg_X7_stepsBack_86, cd_X7_stepsBack, jwp, o_ic, o_lc, o_iload, o_lload, o_aload, o_istore, o_lstore, o_astore, o_iinc, o_pop, o_dup, o_dup2, o_iadd, o_isub, o_imul, o_iand, o_ior, o_ishl, o_ladd, o_lmul, o_land, o_lor, o_idiv, o_irem, o_ineg, o_i2l, o_l2i, o_i2b, o_i2s, o_lushr, o_lshr, o_lshl, o_lcmp, o_ifeq, o_ifne, o_iflt, o_ifge, o_ifgt, o_ifle, o_iceq, o_icne, o_iclt, o_icge, o_icgt, o_icle, o_goto, o_tsw, jsw, o_lsw, jlk, o_getf, o_putf, o_putz, o_iald, o_zald, o_iast, o_zast, o_aald, o_alen, o_gets, o_zld, o_zlen, o_cpy, o_call, o_callV, o_ireti, o_iretz, o_lret, o_vret, jg, js, jkp, jkill, jsp, jcs, jfw, jov, Value.category, Option.toList_some, Option.toList_none, List.nil_append, List.cons_append, List.append_nil, Nat.reduceAdd, true_and, and_true, jb0, jb01, jb1, jem, true_or, or_true, Classical.not_not, forall_const, List.length_cons, List.length_nil, Nat.reduceLeDiff, Nat.zero_le, Nat.reduceLT, hM, km_37_0 hM, km_37_1 hM, km_37_2 hM, km_37_3 hM, km_37_4 hM, km_37_5 hM, km_37_6 hM, km_37_7 hM, km_37_8 hM, km_37_9 hM, km_37_10 hM, km_37_11 hM, km_37_12 hM, km_37_13 hM, km_37_14 hM, km_37_15 hM, km_37_16 hM, km_37_17 hM, km_37_18 hM, km_37_19 hM, km_37_20 hM, km_37_21 hM, km_37_22 hM, km_37_23 hM, km_37_24 hM, km_37_25 hM, km_37_26 hM, km_37_27 hM, km_37_28 hM, km_37_29 hM, km_37_30 hM, km_37_31 hM, km_37_32 hM, kmo_37 hM, kma_38 hM, kma_39 hM, kma_40 hM, kma_41 hM, kma_42 hM, kma_43 hM, kma_44 hM, kma_45 hM, kma_46 hM, kma_47 hM, kma_48 hM, kma_49 hM, kma_50 hM, kma_52 hM, kma_53 hM, kma_54 hM, kma_55 hM, kma_56 hM, kma_51 hM]
      rw [e8]
      exact ⟨fun _ => hT1, fun q => absurd (Int32.le_refl _) q⟩
    | succ n ih =>
      intro k hk2 x1 x3
      have e8 : mVb (aBPl (mQ h) (mS h) cnt) g k 37 8 = nI cnt := by rw [mVb_o _ _ _ (by decide), hg37, hcnt]
      have e46 : mVb (aBPl (mQ h) (mS h) cnt) g k 46 k = nI (aBPl (mQ h) (mS h) cnt k) := by rw [mVb_o _ _ _ (by decide), hbg k (by omega)]
      have hP : aBPl (mQ h) (mS h) cnt k < 57600 := by
        have h9 := hall (cnt - 1 - k) (by omega)
        rw [show cnt - 1 - (cnt - 1 - k) = k by omega] at h9
        exact aBP_lt h9
      have vk : vp_in (nI k) 6 := vp_in_nI (by omega) (by decide)
      have vP : vp_in (nI (aBPl (mQ h) (mS h) cnt k)) 57600 := vp_in_nI hP (by decide)
      have h2 := ih (k + 1) (by omega) x1 x3
      rw [mVb_s] at h2
      generalize mVb (aBPl (mQ h) (mS h) cnt) g k = gk at e8 e46 h2 ⊢
      generalize aBPl (mQ h) (mS h) cnt k = pk at hP e46 vP h2 ⊢
      refine H57 80 _ _ _ _ _ _ ?_
      simp only [sg_X7_stepsBack_0, sg_X7_stepsBack_7, sg_X7_stepsBack_25, sg_X7_stepsBack_33, sg_X7_stepsBack_47, sg_X7_stepsBack_53, sg_X7_stepsBack_55, sg_X7_stepsBack_57, sg_X7_stepsBack_86, cd_X7_stepsBack, jwp, o_ic, o_lc, o_iload, o_lload, o_aload, o_istore, o_lstore, o_astore, o_iinc, o_pop, o_dup, o_dup2, o_iadd, o_isub, o_imul, o_iand, o_ior, o_ishl, o_ladd, o_lmul, o_land, o_lor, o_idiv, o_irem, o_ineg, o_i2l, o_l2i, o_i2b, o_i2s, o_lushr, o_lshr, o_lshl, o_lcmp, o_ifeq, o_ifne, o_iflt, o_ifge, o_ifgt, o_ifle, o_iceq, o_icne, o_iclt, o_icge, o_icgt, o_icle, o_goto, o_tsw, jsw, o_lsw, jlk, o_getf, o_putf, o_putz, o_iald, o_zald, o_iast, o_zast, o_aald, o_alen, o_gets, o_zld, o_zlen, o_cpy, o_call, o_callV, o_ireti, o_iretz, o_lret, o_vret, jg, js, jkp, jkill, jsp, jcs, jfw, jov, Value.category, Option.toList_some, Option.toList_none, List.nil_append, List.cons_append, List.append_nil, Nat.reduceAdd, true_and, and_true, jb0, jb01, jb1, jem, true_or, or_true, Classical.not_not, forall_const, List.length_cons, List.length_nil, Nat.reduceLeDiff, Nat.zero_le, Nat.reduceLT, and_self, not_true_eq_false, not_false_eq_true, false_imp_iff, true_imp_iff, implies_true, and_false, false_and, or_false, false_or, hM, km_37_0 hM, km_37_1 hM, km_37_2 hM, km_37_3 hM, km_37_4 hM, km_37_5 hM, km_37_6 hM, km_37_7 hM, km_37_8 hM, km_37_9 hM, km_37_10 hM, km_37_11 hM, km_37_12 hM, km_37_13 hM, km_37_14 hM, km_37_15 hM, km_37_16 hM, km_37_17 hM, km_37_18 hM, km_37_19 hM, km_37_20 hM, km_37_21 hM, km_37_22 hM, km_37_23 hM, km_37_24 hM, km_37_25 hM, km_37_26 hM, km_37_27 hM, km_37_28 hM, km_37_29 hM, km_37_30 hM, km_37_31 hM, km_37_32 hM, kmo_37 hM, kma_38 hM, kma_39 hM, kma_40 hM, kma_41 hM, kma_42 hM, kma_43 hM, kma_44 hM, kma_45 hM, kma_46 hM, kma_47 hM, kma_48 hM, kma_49 hM, kma_50 hM, kma_52 hM, kma_53 hM, kma_54 hM, kma_55 hM, kma_56 hM, kma_51 hM, vk, nI_clamp (show k < 2147483648 by omega), e46, vP, nI_clamp (show pk < 2147483648 by omega)]
      rw [e8]
      refine ⟨fun q => absurd ((nI_leI (by omega) (by omega)).mp q) (by omega), fun _ => ?_⟩
      rw [nI_1]
      exact h2
  have h47 : ∀ (i w b : Int32) (g : jM), G 33 [some (.ref 37), some (.int i), some (.int (w + 1)), some (.int b)] [] K g 0 0 → G 47 [some (.ref 37), some (.int i), some (.int w), some (.int b)] [] K g 0 0 := by
    intro i w b g hG
    refine H47 60 _ _ _ _ _ _ ?_
    simp only [sg_X7_stepsBack_0, sg_X7_stepsBack_7, sg_X7_stepsBack_25, sg_X7_stepsBack_33, sg_X7_stepsBack_47, sg_X7_stepsBack_53, sg_X7_stepsBack_55, sg_X7_stepsBack_57, sg_X7_stepsBack_86, cd_X7_stepsBack, jwp, o_ic, o_lc, o_iload, o_lload, o_aload, o_istore, o_lstore, o_astore, o_iinc, o_pop, o_dup, o_dup2, o_iadd, o_isub, o_imul, o_iand, o_ior, o_ishl, o_ladd, o_lmul, o_land, o_lor, o_idiv, o_irem, o_ineg, o_i2l, o_l2i, o_i2b, o_i2s, o_lushr, o_lshr, o_lshl, o_lcmp, o_ifeq, o_ifne, o_iflt, o_ifge, o_ifgt, o_ifle, o_iceq, o_icne, o_iclt, o_icge, o_icgt, o_icle, o_goto, o_tsw, jsw, o_lsw, jlk, o_getf, o_putf, o_putz, o_iald, o_zald, o_iast, o_zast, o_aald, o_alen, o_gets, o_zld, o_zlen, o_cpy, o_call, o_callV, o_ireti, o_iretz, o_lret, o_vret, jg, js, jkp, jkill, jsp, jcs, jfw, jov, Value.category, Option.toList_some, Option.toList_none, List.nil_append, List.cons_append, List.append_nil, Nat.reduceAdd, true_and, and_true, jb0, jb01, jb1, jem, true_or, or_true, Classical.not_not, forall_const, List.length_cons, List.length_nil, Nat.reduceLeDiff, Nat.zero_le, Nat.reduceLT, hM, km_37_0 hM, km_37_1 hM, km_37_2 hM, km_37_3 hM, km_37_4 hM, km_37_5 hM, km_37_6 hM, km_37_7 hM, km_37_8 hM, km_37_9 hM, km_37_10 hM, km_37_11 hM, km_37_12 hM, km_37_13 hM, km_37_14 hM, km_37_15 hM, km_37_16 hM, km_37_17 hM, km_37_18 hM, km_37_19 hM, km_37_20 hM, km_37_21 hM, km_37_22 hM, km_37_23 hM, km_37_24 hM, km_37_25 hM, km_37_26 hM, km_37_27 hM, km_37_28 hM, km_37_29 hM, km_37_30 hM, km_37_31 hM, km_37_32 hM, kmo_37 hM, kma_38 hM, kma_39 hM, kma_40 hM, kma_41 hM, kma_42 hM, kma_43 hM, kma_44 hM, kma_45 hM, kma_46 hM, kma_47 hM, kma_48 hM, kma_49 hM, kma_50 hM, kma_52 hM, kma_53 hM, kma_54 hM, kma_55 hM, kma_56 hM, kma_51 hM]
    exact hG
  have redo : ∀ k, k ≤ cnt → (∀ j, j < k → aBOK (mQ h) (aBks (mQ h) (mS h) cnt j) (cnt - 1 - j)) → ¬ aBAll (mQ h) (mS h) cnt → ∀ g x1 x3, mS g = aBks (mQ h) (mS h) cnt k → mQ g = mQ h → frM h g → G 33 [some (.ref 37), some (.int x1), some (.int (nI (cnt - k))), x3] [] K g 0 0 := by
    intro k
    induction k with
    | zero =>
      intro hkc hall hno g x1 x3 hS hQ hfr
      have e8 : g 37 8 = nI cnt := by rw [f37 g hfr, hcnt]
      have hT0 := hT0 hno g hS hQ hfr
      rw [Nat.sub_zero]
      refine H33 80 _ _ _ _ _ _ ?_
      simp only [sg_X7_stepsBack_0, sg_X7_stepsBack_7, sg_X7_stepsBack_25, sg_X7_stepsBack_33, sg_X7_stepsBack_47, sg_X7_stepsBack_53, sg_X7_stepsBack_55, sg_X7_stepsBack_57, sg_X7_stepsBack_86, cd_X7_stepsBack, jwp, o_ic, o_lc, o_iload, o_lload, o_aload, o_istore, o_lstore, o_astore, o_iinc, o_pop, o_dup, o_dup2, o_iadd, o_isub, o_imul, o_iand, o_ior, o_ishl, o_ladd, o_lmul, o_land, o_lor, o_idiv, o_irem, o_ineg, o_i2l, o_l2i, o_i2b, o_i2s, o_lushr, o_lshr, o_lshl, o_lcmp, o_ifeq, o_ifne, o_iflt, o_ifge, o_ifgt, o_ifle, o_iceq, o_icne, o_iclt, o_icge, o_icgt, o_icle, o_goto, o_tsw, jsw, o_lsw, jlk, o_getf, o_putf, o_putz, o_iald, o_zald, o_iast, o_zast, o_aald, o_alen, o_gets, o_zld, o_zlen, o_cpy, o_call, o_callV, o_ireti, o_iretz, o_lret, o_vret, jg, js, jkp, jkill, jsp, jcs, jfw, jov, Value.category, Option.toList_some, Option.toList_none, List.nil_append, List.cons_append, List.append_nil, Nat.reduceAdd, true_and, and_true, jb0, jb01, jb1, jem, true_or, or_true, Classical.not_not, forall_const, List.length_cons, List.length_nil, Nat.reduceLeDiff, Nat.zero_le, Nat.reduceLT, hM, km_37_0 hM, km_37_1 hM, km_37_2 hM, km_37_3 hM, km_37_4 hM, km_37_5 hM, km_37_6 hM, km_37_7 hM, km_37_8 hM, km_37_9 hM, km_37_10 hM, km_37_11 hM, km_37_12 hM, km_37_13 hM, km_37_14 hM, km_37_15 hM, km_37_16 hM, km_37_17 hM, km_37_18 hM, km_37_19 hM, km_37_20 hM, km_37_21 hM, km_37_22 hM, km_37_23 hM, km_37_24 hM, km_37_25 hM, km_37_26 hM, km_37_27 hM, km_37_28 hM, km_37_29 hM, km_37_30 hM, km_37_31 hM, km_37_32 hM, kmo_37 hM, kma_38 hM, kma_39 hM, kma_40 hM, kma_41 hM, kma_42 hM, kma_43 hM, kma_44 hM, kma_45 hM, kma_46 hM, kma_47 hM, kma_48 hM, kma_49 hM, kma_50 hM, kma_52 hM, kma_53 hM, kma_54 hM, kma_55 hM, kma_56 hM, kma_51 hM, T_X7_acts]
      rw [e8]
      exact ⟨fun _ => hT0, fun q => absurd (Int32.le_refl _) q⟩
    | succ k ih =>
      intro hkc hall hno g x1 x3 hS hQ hfr
      have e8 : g 37 8 = nI cnt := by rw [f37 g hfr, hcnt]
      have hk6 : cnt - 1 - k < 6 := by omega
      have hvk := aVal_bks hv k (by omega) (fun j hj => hall j (by omega))
      have hvk1 := aVal_bks hv (k + 1) (by omega) (fun j hj => hall j (by omega))
      have hvg : aVal (mQ g) (mS g) cnt := by rw [hQ, hS]; exact hvk1
      obtain ⟨b1, b2, b3⟩ := aAct_back hvk.1 (hvk.2 (cnt - 1 - k) (by omega)) (hall k (by omega))
      have hS' : mS g = aBack (mQ h) (aBks (mQ h) (mS h) cnt k) (cnt - 1 - k) := hS
      have hb : aOK (mQ g) (mS g) (cnt - 1 - k) := by rw [hQ, hS']; exact b1
      have kg : g 37 0 = 0 ∨ g 37 0 = 1 := by rw [f37 g hfr]; exact hk
      have hnle : ¬ nI cnt ≤ nI (cnt - 1 - k) := fun q => absurd ((nI_leI (by omega) (by omega)).mp q) (by omega)
      have h2 := ih (by omega) (fun j hj => hall j (by omega)) hno
      rw [show cnt - k = (cnt - 1 - k) + 1 by omega] at h2
      rw [show cnt - (k + 1) = cnt - 1 - k by omega]
      have hA : cnt - 1 - k < cnt := by omega
      generalize cnt - 1 - k = A at *
      refine H33 80 _ _ _ _ _ _ ?_
      simp only [sg_X7_stepsBack_0, sg_X7_stepsBack_7, sg_X7_stepsBack_25, sg_X7_stepsBack_33, sg_X7_stepsBack_47, sg_X7_stepsBack_53, sg_X7_stepsBack_55, sg_X7_stepsBack_57, sg_X7_stepsBack_86, cd_X7_stepsBack, jwp, o_ic, o_lc, o_iload, o_lload, o_aload, o_istore, o_lstore, o_astore, o_iinc, o_pop, o_dup, o_dup2, o_iadd, o_isub, o_imul, o_iand, o_ior, o_ishl, o_ladd, o_lmul, o_land, o_lor, o_idiv, o_irem, o_ineg, o_i2l, o_l2i, o_i2b, o_i2s, o_lushr, o_lshr, o_lshl, o_lcmp, o_ifeq, o_ifne, o_iflt, o_ifge, o_ifgt, o_ifle, o_iceq, o_icne, o_iclt, o_icge, o_icgt, o_icle, o_goto, o_tsw, jsw, o_lsw, jlk, o_getf, o_putf, o_putz, o_iald, o_zald, o_iast, o_zast, o_aald, o_alen, o_gets, o_zld, o_zlen, o_cpy, o_call, o_callV, o_ireti, o_iretz, o_lret, o_vret, jg, js, jkp, jkill, jsp, jcs, jfw, jov, Value.category, Option.toList_some, Option.toList_none, List.nil_append, List.cons_append, List.append_nil, Nat.reduceAdd, true_and, and_true, jb0, jb01, jb1, jem, true_or, or_true, Classical.not_not, forall_const, List.length_cons, List.length_nil, Nat.reduceLeDiff, Nat.zero_le, Nat.reduceLT, and_self, not_true_eq_false, not_false_eq_true, false_imp_iff, true_imp_iff, implies_true, and_false, false_and, or_false, false_or, hM, km_37_0 hM, km_37_1 hM, km_37_2 hM, km_37_3 hM, km_37_4 hM, km_37_5 hM, km_37_6 hM, km_37_7 hM, km_37_8 hM, km_37_9 hM, km_37_10 hM, km_37_11 hM, km_37_12 hM, km_37_13 hM, km_37_14 hM, km_37_15 hM, km_37_16 hM, km_37_17 hM, km_37_18 hM, km_37_19 hM, km_37_20 hM, km_37_21 hM, km_37_22 hM, km_37_23 hM, km_37_24 hM, km_37_25 hM, km_37_26 hM, km_37_27 hM, km_37_28 hM, km_37_29 hM, km_37_30 hM, km_37_31 hM, km_37_32 hM, kmo_37 hM, kma_38 hM, kma_39 hM, kma_40 hM, kma_41 hM, kma_42 hM, kma_43 hM, kma_44 hM, kma_45 hM, kma_46 hM, kma_47 hM, kma_48 hM, kma_49 hM, kma_50 hM, kma_52 hM, kma_53 hM, kma_54 hM, kma_55 hM, kma_56 hM, kma_51 hM, T_X7_acts, e8, hnle]
      refine ⟨A, hk6, rfl, kg, hvg.1, hvg.2 A hA, fun _ => ?_, fun q => absurd hb q⟩
      refine h47 _ _ _ _ ?_
      rw [nI_1]
      refine h2 _ _ _ ?_ ?_ ?_
      · rw [mS_act g hk6, hQ, hS', b3]
      · rw [mQ_act g A, hQ]
      · exact frM_tr hfr (frM_act g A)
  have loop : ∀ n k, k + n = cnt → (∀ j, j < k → aBOK (mQ h) (aBks (mQ h) (mS h) cnt j) (cnt - 1 - j)) → ∀ g x2 x3, mS g = aBks (mQ h) (mS h) cnt k → mQ g = mQ h → frM h g → (∀ b, b < cnt → cnt - k ≤ b → g 46 b = nI (aBPl (mQ h) (mS h) cnt b)) → G 7 [some (.ref 37), some (.int (nI (cnt - k) + -1)), x2, x3] [] K g 0 0 := by
    intro n
    induction n with
    | zero =>
      intro k hk2 hall g x2 x3 hS hQ hfr hbg
      have : k = cnt := by omega
      subst this
      have h9 := count hall g hS hQ hfr (fun b hb => hbg b hb (by omega)) k 0 (by omega) (-1) x3
      rw [Nat.sub_self, nI_neg1]
      refine H7 80 _ _ _ _ _ _ ?_
      simp only [sg_X7_stepsBack_0, sg_X7_stepsBack_7, sg_X7_stepsBack_25, sg_X7_stepsBack_33, sg_X7_stepsBack_47, sg_X7_stepsBack_53, sg_X7_stepsBack_55, sg_X7_stepsBack_57, sg_X7_stepsBack_86, cd_X7_stepsBack, jwp, o_ic, o_lc, o_iload, o_lload, o_aload, o_istore, o_lstore, o_astore, o_iinc, o_pop, o_dup, o_dup2, o_iadd, o_isub, o_imul, o_iand, o_ior, o_ishl, o_ladd, o_lmul, o_land, o_lor, o_idiv, o_irem, o_ineg, o_i2l, o_l2i, o_i2b, o_i2s, o_lushr, o_lshr, o_lshl, o_lcmp, o_ifeq, o_ifne, o_iflt, o_ifge, o_ifgt, o_ifle, o_iceq, o_icne, o_iclt, o_icge, o_icgt, o_icle, o_goto, o_tsw, jsw, o_lsw, jlk, o_getf, o_putf, o_putz, o_iald, o_zald, o_iast, o_zast, o_aald, o_alen, o_gets, o_zld, o_zlen, o_cpy, o_call, o_callV, o_ireti, o_iretz, o_lret, o_vret, jg, js, jkp, jkill, jsp, jcs, jfw, jov, Value.category, Option.toList_some, Option.toList_none, List.nil_append, List.cons_append, List.append_nil, Nat.reduceAdd, true_and, and_true, jb0, jb01, jb1, jem, true_or, or_true, Classical.not_not, forall_const, List.length_cons, List.length_nil, Nat.reduceLeDiff, Nat.zero_le, Nat.reduceLT, hM, km_37_0 hM, km_37_1 hM, km_37_2 hM, km_37_3 hM, km_37_4 hM, km_37_5 hM, km_37_6 hM, km_37_7 hM, km_37_8 hM, km_37_9 hM, km_37_10 hM, km_37_11 hM, km_37_12 hM, km_37_13 hM, km_37_14 hM, km_37_15 hM, km_37_16 hM, km_37_17 hM, km_37_18 hM, km_37_19 hM, km_37_20 hM, km_37_21 hM, km_37_22 hM, km_37_23 hM, km_37_24 hM, km_37_25 hM, km_37_26 hM, km_37_27 hM, km_37_28 hM, km_37_29 hM, km_37_30 hM, km_37_31 hM, km_37_32 hM, kmo_37 hM, kma_38 hM, kma_39 hM, kma_40 hM, kma_41 hM, kma_42 hM, kma_43 hM, kma_44 hM, kma_45 hM, kma_46 hM, kma_47 hM, kma_48 hM, kma_49 hM, kma_50 hM, kma_52 hM, kma_53 hM, kma_54 hM, kma_55 hM, kma_56 hM, kma_51 hM, T_X7_actsBack]
      exact ⟨fun _ => ⟨fun _ => h9, fun q => absurd (by decide) q⟩, fun q => absurd (by decide) q⟩
    | succ n ih =>
      intro k hk2 hall g x2 x3 hS hQ hfr hbg
      have ek : cnt - k = (cnt - 1 - k) + 1 := by omega
      have hi6 : cnt - 1 - k < 6 := by omega
      have hvk := aVal_bks hv k (by omega) hall
      have hvg : aVal (mQ g) (mS g) cnt := by rw [hQ, hS]; exact hvk
      have kg : g 37 0 = 0 ∨ g 37 0 = 1 := by rw [f37 g hfr]; exact hk
      have h2 := ih (k + 1) (by omega)
      have h3 := redo k (by omega) hall
      have eS : ∀ s : aS, s = aBack (mQ h) (aBks (mQ h) (mS h) cnt k) (cnt - 1 - k) → s = aBks (mQ h) (mS h) cnt (k + 1) := fun s hs => hs
      have eP : aBP (mQ h) (aBks (mQ h) (mS h) cnt k) (cnt - 1 - k) = aBPl (mQ h) (mS h) cnt (cnt - 1 - k) := by
        unfold aBPl
        rw [show cnt - 1 - (cnt - 1 - k) = k by omega]
      have hok : aBOK (mQ h) (aBks (mQ h) (mS h) cnt k) (cnt - 1 - k) → ∀ j, j < k + 1 → aBOK (mQ h) (aBks (mQ h) (mS h) cnt j) (cnt - 1 - j) := fun q j hj => by
        by_cases e : j = k
        · rw [e]; exact q
        · exact hall j (by omega)
      have hnk : aBAll (mQ h) (mS h) cnt → aBOK (mQ h) (aBks (mQ h) (mS h) cnt k) (cnt - 1 - k) := fun z => z k (by omega)
      rw [ek] at h3 hbg ⊢
      rw [show cnt - (k + 1) = cnt - 1 - k by omega] at h2
      have hA : cnt - 1 - k < cnt := by omega
      rw [nI_m1]
      generalize cnt - 1 - k = A at *
      refine H7 80 _ _ _ _ _ _ ?_
      simp only [sg_X7_stepsBack_0, sg_X7_stepsBack_7, sg_X7_stepsBack_25, sg_X7_stepsBack_33, sg_X7_stepsBack_47, sg_X7_stepsBack_53, sg_X7_stepsBack_55, sg_X7_stepsBack_57, sg_X7_stepsBack_86, cd_X7_stepsBack, jwp, o_ic, o_lc, o_iload, o_lload, o_aload, o_istore, o_lstore, o_astore, o_iinc, o_pop, o_dup, o_dup2, o_iadd, o_isub, o_imul, o_iand, o_ior, o_ishl, o_ladd, o_lmul, o_land, o_lor, o_idiv, o_irem, o_ineg, o_i2l, o_l2i, o_i2b, o_i2s, o_lushr, o_lshr, o_lshl, o_lcmp, o_ifeq, o_ifne, o_iflt, o_ifge, o_ifgt, o_ifle, o_iceq, o_icne, o_iclt, o_icge, o_icgt, o_icle, o_goto, o_tsw, jsw, o_lsw, jlk, o_getf, o_putf, o_putz, o_iald, o_zald, o_iast, o_zast, o_aald, o_alen, o_gets, o_zld, o_zlen, o_cpy, o_call, o_callV, o_ireti, o_iretz, o_lret, o_vret, jg, js, jkp, jkill, jsp, jcs, jfw, jov, Value.category, Option.toList_some, Option.toList_none, List.nil_append, List.cons_append, List.append_nil, Nat.reduceAdd, true_and, and_true, jb0, jb01, jb1, jem, true_or, or_true, Classical.not_not, forall_const, List.length_cons, List.length_nil, Nat.reduceLeDiff, Nat.zero_le, Nat.reduceLT, hM, km_37_0 hM, km_37_1 hM, km_37_2 hM, km_37_3 hM, km_37_4 hM, km_37_5 hM, km_37_6 hM, km_37_7 hM, km_37_8 hM, km_37_9 hM, km_37_10 hM, km_37_11 hM, km_37_12 hM, km_37_13 hM, km_37_14 hM, km_37_15 hM, km_37_16 hM, km_37_17 hM, km_37_18 hM, km_37_19 hM, km_37_20 hM, km_37_21 hM, km_37_22 hM, km_37_23 hM, km_37_24 hM, km_37_25 hM, km_37_26 hM, km_37_27 hM, km_37_28 hM, km_37_29 hM, km_37_30 hM, km_37_31 hM, km_37_32 hM, kmo_37 hM, kma_38 hM, kma_39 hM, kma_40 hM, kma_41 hM, kma_42 hM, kma_43 hM, kma_44 hM, kma_45 hM, kma_46 hM, kma_47 hM, kma_48 hM, kma_49 hM, kma_50 hM, kma_52 hM, kma_53 hM, kma_54 hM, kma_55 hM, kma_56 hM, kma_51 hM, T_X7_actsBack]
      refine ⟨fun q => absurd q (nI_pos (by omega)), fun _ => ⟨A, hi6, rfl, kg, hvg.1, hvg.2 A hA, fun q => ?_, fun q => ?_⟩⟩
      · rw [hQ, hS] at q
        refine ⟨fun z => absurd z (by decide), fun _ => ?_⟩
        refine h2 (hok q) _ _ _ ?_ ?_ ?_ ?_
        · rw [mS_back g hi6, hQ, hS]; exact eS _ rfl
        · rw [mQ_back g A, hQ]
        · exact frM_tr hfr (frM_back g A)
        · intro b hb hAb
          rw [mBack_46]
          by_cases e : b = A
          · subst e; rw [upd_s, hQ, hS, eP]
          · rw [upd_n e]; exact hbg b hb (by omega)
      · have hno : ¬ aBAll (mQ h) (mS h) cnt := fun z => q (by rw [hQ, hS]; exact hnk z)
        have h4 := h3 hno g (nI A) x3 hS hQ hfr
        rw [nI_1]
        refine ⟨⟨fun z => absurd z (nI_pos (show A < 2147483648 by omega)), fun _ => h4⟩, ?_⟩
        first | exact fun z => (z trivial).elim | exact fun z => absurd rfl z | exact fun z => absurd z (by decide)
  refine H0 80 _ _ _ _ _ _ ?_
  simp only [sg_X7_stepsBack_0, sg_X7_stepsBack_7, sg_X7_stepsBack_25, sg_X7_stepsBack_33, sg_X7_stepsBack_47, sg_X7_stepsBack_53, sg_X7_stepsBack_55, sg_X7_stepsBack_57, sg_X7_stepsBack_86, cd_X7_stepsBack, jwp, o_ic, o_lc, o_iload, o_lload, o_aload, o_istore, o_lstore, o_astore, o_iinc, o_pop, o_dup, o_dup2, o_iadd, o_isub, o_imul, o_iand, o_ior, o_ishl, o_ladd, o_lmul, o_land, o_lor, o_idiv, o_irem, o_ineg, o_i2l, o_l2i, o_i2b, o_i2s, o_lushr, o_lshr, o_lshl, o_lcmp, o_ifeq, o_ifne, o_iflt, o_ifge, o_ifgt, o_ifle, o_iceq, o_icne, o_iclt, o_icge, o_icgt, o_icle, o_goto, o_tsw, jsw, o_lsw, jlk, o_getf, o_putf, o_putz, o_iald, o_zald, o_iast, o_zast, o_aald, o_alen, o_gets, o_zld, o_zlen, o_cpy, o_call, o_callV, o_ireti, o_iretz, o_lret, o_vret, jg, js, jkp, jkill, jsp, jcs, jfw, jov, Value.category, Option.toList_some, Option.toList_none, List.nil_append, List.cons_append, List.append_nil, Nat.reduceAdd, true_and, and_true, jb0, jb01, jb1, jem, true_or, or_true, Classical.not_not, forall_const, List.length_cons, List.length_nil, Nat.reduceLeDiff, Nat.zero_le, Nat.reduceLT, hM, km_37_0 hM, km_37_1 hM, km_37_2 hM, km_37_3 hM, km_37_4 hM, km_37_5 hM, km_37_6 hM, km_37_7 hM, km_37_8 hM, km_37_9 hM, km_37_10 hM, km_37_11 hM, km_37_12 hM, km_37_13 hM, km_37_14 hM, km_37_15 hM, km_37_16 hM, km_37_17 hM, km_37_18 hM, km_37_19 hM, km_37_20 hM, km_37_21 hM, km_37_22 hM, km_37_23 hM, km_37_24 hM, km_37_25 hM, km_37_26 hM, km_37_27 hM, km_37_28 hM, km_37_29 hM, km_37_30 hM, km_37_31 hM, km_37_32 hM, kmo_37 hM, kma_38 hM, kma_39 hM, kma_40 hM, kma_41 hM, kma_42 hM, kma_43 hM, kma_44 hM, kma_45 hM, kma_46 hM, kma_47 hM, kma_48 hM, kma_49 hM, kma_50 hM, kma_52 hM, kma_53 hM, kma_54 hM, kma_55 hM, kma_56 hM, kma_51 hM]
  rw [hcnt, Int32.sub_eq_add_neg]
  have h9 := loop cnt 0 (by omega) (fun j hj => by omega) h none none rfl rfl (frM_rf h) (fun b hb hb2 => by omega)
  rw [Nat.sub_zero] at h9
  exact h9
theorem m_X7_stepsBack (l : Launch) : jHolds vwCl l yX7_stepsBack wsX7_stepsBack 3 69 0 0 T_X7_stepsBack := by
  refine m_X7_stepsBack_of l (fun G Q vs K h H0 H7 H33 H47 H57 hT => ?_)
  unfold T_X7_stepsBack at hT
  split at hT
  · obtain ⟨rfl, hT⟩ := hT
    exact ⟨Nat.le_of_ble_eq_true rfl, v_X7_stepsBack hT H0 H7 H33 H47 H57⟩
  · exact hT.elim
