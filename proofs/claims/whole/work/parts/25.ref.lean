/-! X7_count -/
/-! ===== counts of the reference ===== -/
def mCp (h : jM) (w : Int32) (k : Nat) : Prop := if w = 1 then ¬ h 38 k = 0 else if w = 3 then ¬ h 39 k = 0 else h 38 k = w - 10
def T_X7_count : jT := fun vs K h Q => match vs with
  | [.ref r0, .int w] => r0 = 37 ∧ (jXM K ∧ (¬ (w = 1 ∨ w = 3 ∨ (10 ≤ w ∧ w ≤ 9 + h 37 1)) → Q (some (.int (if w = 0 then h 37 8 else if w = 2 then h 37 14 else if w = 4 then h 37 1 else if w = 5 then h 37 0 else -1))) K h) ∧ (w = 1 ∨ w = 3 ∨ (10 ≤ w ∧ w ≤ 9 + h 37 1) → Q (some (.int (nI (jcnt (mCp h w) 57600)))) K h))
  | _ => False
def sg_X7_count_0 : jS := [(o_ic (0), 1), (o_istore 2, 1), (o_iload 1, 1), (o_ic (1), 1), (o_iceq 28, 3), (o_iload 1, 1), (o_ic (3), 1), (o_iceq 28, 3), (o_iload 1, 1), (o_ic (10), 2), (o_ic (9), 2), (o_aload 0, 1), (o_getf 7 1, 3), (o_iadd, 1), (o_call 3 T_X7_in, 3), (o_ifeq 121, 3), (o_ic (0), 1), (o_istore 3, 1)]
def sg_X7_count_28 : jS := [(o_ic (0), 1), (o_istore 3, 1)]
def sg_X7_count_30 : jS := [(o_iload 3, 1), (o_ic (57600), 2), (o_icge 119, 3), (o_iload 1, 1), (o_ic (1), 1), (o_icne 58, 3), (o_aload 0, 1), (o_getf 7 2, 3), (o_iload 3, 1), (o_iald, 1), (o_ifeq 54, 3), (o_ic (1), 1), (o_goto 98, 3)]
def sg_X7_count_54 : jS := [(o_ic (0), 1), (o_goto 98, 3)]
def sg_X7_count_58 : jS := [(o_iload 1, 1), (o_ic (3), 1), (o_icne 80, 3), (o_aload 0, 1), (o_getf 7 3, 3), (o_iload 3, 1), (o_iald, 1), (o_ifeq 76, 3), (o_ic (1), 1), (o_goto 98, 3)]
def sg_X7_count_76 : jS := [(o_ic (0), 1), (o_goto 98, 3)]
def sg_X7_count_80 : jS := [(o_aload 0, 1), (o_getf 7 2, 3), (o_iload 3, 1), (o_iald, 1), (o_iload 1, 1), (o_ic (10), 2), (o_isub, 1), (o_icne 97, 3), (o_ic (1), 1), (o_goto 98, 3)]
def sg_X7_count_97 : jS := [(o_ic (0), 1)]
def sg_X7_count_98 : jS := [(o_istore 4, 2), (o_iload 2, 1), (o_iload 4, 2), (o_ifeq 110, 3), (o_ic (1), 1), (o_goto 111, 3)]
def sg_X7_count_110 : jS := [(o_ic (0), 1), (o_iadd, 1), (o_istore 2, 1), (o_iinc 3 (1), 3), (o_goto 30, 3)]
def sg_X7_count_111 : jS := [(o_iadd, 1), (o_istore 2, 1), (o_iinc 3 (1), 3), (o_goto 30, 3)]
def sg_X7_count_119 : jS := [(o_iload 2, 1), (o_ireti, 1)]
def sg_X7_count_121 : jS := [(o_iload 1, 1), (o_ifne 132, 3), (o_aload 0, 1), (o_getf 7 8, 3), (o_goto 169, 3)]
def sg_X7_count_132 : jS := [(o_iload 1, 1), (o_ic (2), 1), (o_icne 144, 3), (o_aload 0, 1), (o_getf 7 14, 3), (o_goto 169, 3)]
def sg_X7_count_144 : jS := [(o_iload 1, 1), (o_ic (4), 1), (o_icne 156, 3), (o_aload 0, 1), (o_getf 7 1, 3), (o_goto 169, 3)]
def sg_X7_count_156 : jS := [(o_iload 1, 1), (o_ic (5), 1), (o_icne 168, 3), (o_aload 0, 1), (o_getf 7 0, 3), (o_goto 169, 3)]
def sg_X7_count_168 : jS := [(o_ic (-1), 1), (o_ireti, 1)]
def sg_X7_count_169 : jS := [(o_ireti, 1)]
def cd_X7_count : Nat → jS := fun t => match t with
  | 28 => sg_X7_count_28
  | 54 => sg_X7_count_54
  | 58 => sg_X7_count_58
  | 76 => sg_X7_count_76
  | 80 => sg_X7_count_80
  | 97 => sg_X7_count_97
  | 110 => sg_X7_count_110
  | 111 => sg_X7_count_111
  | 119 => sg_X7_count_119
  | 121 => sg_X7_count_121
  | 132 => sg_X7_count_132
  | 144 => sg_X7_count_144
  | 156 => sg_X7_count_156
  | 168 => sg_X7_count_168
  | 169 => sg_X7_count_169
  | _ => []
theorem wl_X7_count_14 : Cond.fieldLink RX7 14 (TX7 2).1 (TX7 2).2.1 (TX7 2).2.2.1 ∈ wsX7_count := by decide +kernel
theorem wl_X7_count_18 : Cond.fieldLink RX7 18 (TX7 3).1 (TX7 3).2.1 (TX7 3).2.2.1 ∈ wsX7_count := by decide +kernel
theorem wl_X7_count_77 : Cond.fieldLink RX7 77 (TX7 0).1 (TX7 0).2.1 (TX7 0).2.2.1 ∈ wsX7_count := by decide +kernel
theorem wl_X7_count_81 : Cond.fieldLink RX7 81 (TX7 8).1 (TX7 8).2.1 (TX7 8).2.2.1 ∈ wsX7_count := by decide +kernel
theorem wl_X7_count_84 : Cond.fieldLink RX7 84 (TX7 1).1 (TX7 1).2.1 (TX7 1).2.2.1 ∈ wsX7_count := by decide +kernel
theorem wl_X7_count_94 : Cond.fieldLink RX7 94 (TX7 14).1 (TX7 14).2.1 (TX7 14).2.2.1 ∈ wsX7_count := by decide +kernel
theorem wi_X7_count_X7 : ∀ w ∈ u_ws RX7 TX7 33, w ∈ wsX7_count := by decide +kernel
def E_X7_count (Γ : jΓ) (Q : jPost) : Prop := Γ.2.2.2.2.2.2.2.2.2.2.1 = 5 ∧ Γ.2.2.2.2.2.2.2.2.2.2.2.1 = vwCl ∧ jC Γ cX7_count RX7 "count" (some .int) wsX7_count 1 22 0 0 ∧ jR Γ Q 0 0
theorem oo_X7_count_0 {Γ : jΓ} {Q : jPost} (E : E_X7_count Γ Q) : jSA Γ Q 0 (o_ic (0)) 1 := so_iconst E.2.2.1 rfl dX7_count_0
theorem oo_X7_count_1 {Γ : jΓ} {Q : jPost} (E : E_X7_count Γ Q) : jSA Γ Q 1 (o_istore 2) 1 := so_istore_n E.2.2.1 rfl (by rw [E.1]; decide) dX7_count_1
theorem oo_X7_count_2 {Γ : jΓ} {Q : jPost} (E : E_X7_count Γ Q) : jSA Γ Q 2 (o_iload 1) 1 := so_iload_n E.2.2.1 rfl dX7_count_2
theorem oo_X7_count_3 {Γ : jΓ} {Q : jPost} (E : E_X7_count Γ Q) : jSA Γ Q 3 (o_ic (1)) 1 := so_iconst E.2.2.1 rfl dX7_count_3
theorem oo_X7_count_4 {Γ : jΓ} {Q : jPost} (E : E_X7_count Γ Q) : jSA Γ Q 4 (o_iceq 28) 3 := so_iceq E.2.2.1 (by decide) dX7_count_4
theorem oo_X7_count_7 {Γ : jΓ} {Q : jPost} (E : E_X7_count Γ Q) : jSA Γ Q 7 (o_iload 1) 1 := so_iload_n E.2.2.1 rfl dX7_count_7
theorem oo_X7_count_8 {Γ : jΓ} {Q : jPost} (E : E_X7_count Γ Q) : jSA Γ Q 8 (o_ic (3)) 1 := so_iconst E.2.2.1 rfl dX7_count_8
theorem oo_X7_count_9 {Γ : jΓ} {Q : jPost} (E : E_X7_count Γ Q) : jSA Γ Q 9 (o_iceq 28) 3 := so_iceq E.2.2.1 (by decide) dX7_count_9
theorem oo_X7_count_12 {Γ : jΓ} {Q : jPost} (E : E_X7_count Γ Q) : jSA Γ Q 12 (o_iload 1) 1 := so_iload_n E.2.2.1 rfl dX7_count_12
theorem oo_X7_count_13 {Γ : jΓ} {Q : jPost} (E : E_X7_count Γ Q) : jSA Γ Q 13 (o_ic (10)) 2 := so_bipush E.2.2.1 rfl dX7_count_13
theorem oo_X7_count_15 {Γ : jΓ} {Q : jPost} (E : E_X7_count Γ Q) : jSA Γ Q 15 (o_ic (9)) 2 := so_bipush E.2.2.1 rfl dX7_count_15
theorem oo_X7_count_17 {Γ : jΓ} {Q : jPost} (E : E_X7_count Γ Q) : jSA Γ Q 17 (o_aload 0) 1 := so_aload_n E.2.2.1 rfl dX7_count_17
theorem oo_X7_count_18 {Γ : jΓ} {Q : jPost} (E : E_X7_count Γ Q) : jSA Γ Q 18 (o_getf 7 1) 3 := so_getf (ci := 7) E.2.2.1 wi_X7_count_X7 (by rw [E.2.1]; rfl) 1 (by decide) wl_X7_count_84 dX7_count_18
theorem oo_X7_count_21 {Γ : jΓ} {Q : jPost} (E : E_X7_count Γ Q) : jSA Γ Q 21 (o_iadd) 1 := so_iadd E.2.2.1 dX7_count_21
theorem oo_X7_count_22 {Γ : jΓ} {Q : jPost} (E : E_X7_count Γ Q) : jSA Γ Q 22 (o_call 3 T_X7_in) 3 := so_callS E.2.2.1 gX7_count_X7_in (by decide +kernel) rfl (by rw [E.2.1]; exact m_X7_in _) (by decide) (by decide) dX7_count_22
theorem oo_X7_count_25 {Γ : jΓ} {Q : jPost} (E : E_X7_count Γ Q) : jSA Γ Q 25 (o_ifeq 121) 3 := so_ifeq E.2.2.1 (by decide) dX7_count_25
theorem oo_X7_count_28 {Γ : jΓ} {Q : jPost} (E : E_X7_count Γ Q) : jSA Γ Q 28 (o_ic (0)) 1 := so_iconst E.2.2.1 rfl dX7_count_28
theorem oo_X7_count_29 {Γ : jΓ} {Q : jPost} (E : E_X7_count Γ Q) : jSA Γ Q 29 (o_istore 3) 1 := so_istore_n E.2.2.1 rfl (by rw [E.1]; decide) dX7_count_29
theorem oo_X7_count_30 {Γ : jΓ} {Q : jPost} (E : E_X7_count Γ Q) : jSA Γ Q 30 (o_iload 3) 1 := so_iload_n E.2.2.1 rfl dX7_count_30
theorem oo_X7_count_31 {Γ : jΓ} {Q : jPost} (E : E_X7_count Γ Q) : jSA Γ Q 31 (o_ic (57600)) 2 := so_ldc E.2.2.1 (by decide +kernel) dX7_count_31
theorem oo_X7_count_33 {Γ : jΓ} {Q : jPost} (E : E_X7_count Γ Q) : jSA Γ Q 33 (o_icge 119) 3 := so_icge E.2.2.1 (by decide) dX7_count_33
theorem oo_X7_count_36 {Γ : jΓ} {Q : jPost} (E : E_X7_count Γ Q) : jSA Γ Q 36 (o_iload 1) 1 := so_iload_n E.2.2.1 rfl dX7_count_36
theorem oo_X7_count_37 {Γ : jΓ} {Q : jPost} (E : E_X7_count Γ Q) : jSA Γ Q 37 (o_ic (1)) 1 := so_iconst E.2.2.1 rfl dX7_count_37
theorem oo_X7_count_38 {Γ : jΓ} {Q : jPost} (E : E_X7_count Γ Q) : jSA Γ Q 38 (o_icne 58) 3 := so_icne E.2.2.1 (by decide) dX7_count_38
theorem oo_X7_count_41 {Γ : jΓ} {Q : jPost} (E : E_X7_count Γ Q) : jSA Γ Q 41 (o_aload 0) 1 := so_aload_n E.2.2.1 rfl dX7_count_41
theorem oo_X7_count_42 {Γ : jΓ} {Q : jPost} (E : E_X7_count Γ Q) : jSA Γ Q 42 (o_getf 7 2) 3 := so_getf (ci := 7) E.2.2.1 wi_X7_count_X7 (by rw [E.2.1]; rfl) 2 (by decide) wl_X7_count_14 dX7_count_42
theorem oo_X7_count_45 {Γ : jΓ} {Q : jPost} (E : E_X7_count Γ Q) : jSA Γ Q 45 (o_iload 3) 1 := so_iload_n E.2.2.1 rfl dX7_count_45
theorem oo_X7_count_46 {Γ : jΓ} {Q : jPost} (E : E_X7_count Γ Q) : jSA Γ Q 46 (o_iald) 1 := so_iald E.2.2.1 dX7_count_46
theorem oo_X7_count_47 {Γ : jΓ} {Q : jPost} (E : E_X7_count Γ Q) : jSA Γ Q 47 (o_ifeq 54) 3 := so_ifeq E.2.2.1 (by decide) dX7_count_47
theorem oo_X7_count_50 {Γ : jΓ} {Q : jPost} (E : E_X7_count Γ Q) : jSA Γ Q 50 (o_ic (1)) 1 := so_iconst E.2.2.1 rfl dX7_count_50
theorem oo_X7_count_51 {Γ : jΓ} {Q : jPost} (E : E_X7_count Γ Q) : jSA Γ Q 51 (o_goto 98) 3 := so_goto E.2.2.1 (by decide) dX7_count_51
theorem oo_X7_count_54 {Γ : jΓ} {Q : jPost} (E : E_X7_count Γ Q) : jSA Γ Q 54 (o_ic (0)) 1 := so_iconst E.2.2.1 rfl dX7_count_54
theorem oo_X7_count_55 {Γ : jΓ} {Q : jPost} (E : E_X7_count Γ Q) : jSA Γ Q 55 (o_goto 98) 3 := so_goto E.2.2.1 (by decide) dX7_count_55
theorem oo_X7_count_58 {Γ : jΓ} {Q : jPost} (E : E_X7_count Γ Q) : jSA Γ Q 58 (o_iload 1) 1 := so_iload_n E.2.2.1 rfl dX7_count_58
theorem oo_X7_count_59 {Γ : jΓ} {Q : jPost} (E : E_X7_count Γ Q) : jSA Γ Q 59 (o_ic (3)) 1 := so_iconst E.2.2.1 rfl dX7_count_59
theorem oo_X7_count_60 {Γ : jΓ} {Q : jPost} (E : E_X7_count Γ Q) : jSA Γ Q 60 (o_icne 80) 3 := so_icne E.2.2.1 (by decide) dX7_count_60
theorem oo_X7_count_63 {Γ : jΓ} {Q : jPost} (E : E_X7_count Γ Q) : jSA Γ Q 63 (o_aload 0) 1 := so_aload_n E.2.2.1 rfl dX7_count_63
theorem oo_X7_count_64 {Γ : jΓ} {Q : jPost} (E : E_X7_count Γ Q) : jSA Γ Q 64 (o_getf 7 3) 3 := so_getf (ci := 7) E.2.2.1 wi_X7_count_X7 (by rw [E.2.1]; rfl) 3 (by decide) wl_X7_count_18 dX7_count_64
theorem oo_X7_count_67 {Γ : jΓ} {Q : jPost} (E : E_X7_count Γ Q) : jSA Γ Q 67 (o_iload 3) 1 := so_iload_n E.2.2.1 rfl dX7_count_67
theorem oo_X7_count_68 {Γ : jΓ} {Q : jPost} (E : E_X7_count Γ Q) : jSA Γ Q 68 (o_iald) 1 := so_iald E.2.2.1 dX7_count_68
theorem oo_X7_count_69 {Γ : jΓ} {Q : jPost} (E : E_X7_count Γ Q) : jSA Γ Q 69 (o_ifeq 76) 3 := so_ifeq E.2.2.1 (by decide) dX7_count_69
theorem oo_X7_count_72 {Γ : jΓ} {Q : jPost} (E : E_X7_count Γ Q) : jSA Γ Q 72 (o_ic (1)) 1 := so_iconst E.2.2.1 rfl dX7_count_72
theorem oo_X7_count_73 {Γ : jΓ} {Q : jPost} (E : E_X7_count Γ Q) : jSA Γ Q 73 (o_goto 98) 3 := so_goto E.2.2.1 (by decide) dX7_count_73
theorem oo_X7_count_76 {Γ : jΓ} {Q : jPost} (E : E_X7_count Γ Q) : jSA Γ Q 76 (o_ic (0)) 1 := so_iconst E.2.2.1 rfl dX7_count_76
theorem oo_X7_count_77 {Γ : jΓ} {Q : jPost} (E : E_X7_count Γ Q) : jSA Γ Q 77 (o_goto 98) 3 := so_goto E.2.2.1 (by decide) dX7_count_77
theorem oo_X7_count_80 {Γ : jΓ} {Q : jPost} (E : E_X7_count Γ Q) : jSA Γ Q 80 (o_aload 0) 1 := so_aload_n E.2.2.1 rfl dX7_count_80
theorem oo_X7_count_81 {Γ : jΓ} {Q : jPost} (E : E_X7_count Γ Q) : jSA Γ Q 81 (o_getf 7 2) 3 := so_getf (ci := 7) E.2.2.1 wi_X7_count_X7 (by rw [E.2.1]; rfl) 2 (by decide) wl_X7_count_14 dX7_count_81
theorem oo_X7_count_84 {Γ : jΓ} {Q : jPost} (E : E_X7_count Γ Q) : jSA Γ Q 84 (o_iload 3) 1 := so_iload_n E.2.2.1 rfl dX7_count_84
theorem oo_X7_count_85 {Γ : jΓ} {Q : jPost} (E : E_X7_count Γ Q) : jSA Γ Q 85 (o_iald) 1 := so_iald E.2.2.1 dX7_count_85
theorem oo_X7_count_86 {Γ : jΓ} {Q : jPost} (E : E_X7_count Γ Q) : jSA Γ Q 86 (o_iload 1) 1 := so_iload_n E.2.2.1 rfl dX7_count_86
theorem oo_X7_count_87 {Γ : jΓ} {Q : jPost} (E : E_X7_count Γ Q) : jSA Γ Q 87 (o_ic (10)) 2 := so_bipush E.2.2.1 rfl dX7_count_87
theorem oo_X7_count_89 {Γ : jΓ} {Q : jPost} (E : E_X7_count Γ Q) : jSA Γ Q 89 (o_isub) 1 := so_isub E.2.2.1 dX7_count_89
theorem oo_X7_count_90 {Γ : jΓ} {Q : jPost} (E : E_X7_count Γ Q) : jSA Γ Q 90 (o_icne 97) 3 := so_icne E.2.2.1 (by decide) dX7_count_90
theorem oo_X7_count_93 {Γ : jΓ} {Q : jPost} (E : E_X7_count Γ Q) : jSA Γ Q 93 (o_ic (1)) 1 := so_iconst E.2.2.1 rfl dX7_count_93
theorem oo_X7_count_94 {Γ : jΓ} {Q : jPost} (E : E_X7_count Γ Q) : jSA Γ Q 94 (o_goto 98) 3 := so_goto E.2.2.1 (by decide) dX7_count_94
theorem oo_X7_count_97 {Γ : jΓ} {Q : jPost} (E : E_X7_count Γ Q) : jSA Γ Q 97 (o_ic (0)) 1 := so_iconst E.2.2.1 rfl dX7_count_97
theorem oo_X7_count_98 {Γ : jΓ} {Q : jPost} (E : E_X7_count Γ Q) : jSA Γ Q 98 (o_istore 4) 2 := so_istore E.2.2.1 (by rw [E.1]; decide) dX7_count_98
theorem oo_X7_count_100 {Γ : jΓ} {Q : jPost} (E : E_X7_count Γ Q) : jSA Γ Q 100 (o_iload 2) 1 := so_iload_n E.2.2.1 rfl dX7_count_100
theorem oo_X7_count_101 {Γ : jΓ} {Q : jPost} (E : E_X7_count Γ Q) : jSA Γ Q 101 (o_iload 4) 2 := so_iload E.2.2.1 dX7_count_101
theorem oo_X7_count_103 {Γ : jΓ} {Q : jPost} (E : E_X7_count Γ Q) : jSA Γ Q 103 (o_ifeq 110) 3 := so_ifeq E.2.2.1 (by decide) dX7_count_103
theorem oo_X7_count_106 {Γ : jΓ} {Q : jPost} (E : E_X7_count Γ Q) : jSA Γ Q 106 (o_ic (1)) 1 := so_iconst E.2.2.1 rfl dX7_count_106
theorem oo_X7_count_107 {Γ : jΓ} {Q : jPost} (E : E_X7_count Γ Q) : jSA Γ Q 107 (o_goto 111) 3 := so_goto E.2.2.1 (by decide) dX7_count_107
theorem oo_X7_count_110 {Γ : jΓ} {Q : jPost} (E : E_X7_count Γ Q) : jSA Γ Q 110 (o_ic (0)) 1 := so_iconst E.2.2.1 rfl dX7_count_110
theorem oo_X7_count_111 {Γ : jΓ} {Q : jPost} (E : E_X7_count Γ Q) : jSA Γ Q 111 (o_iadd) 1 := so_iadd E.2.2.1 dX7_count_111
theorem oo_X7_count_112 {Γ : jΓ} {Q : jPost} (E : E_X7_count Γ Q) : jSA Γ Q 112 (o_istore 2) 1 := so_istore_n E.2.2.1 rfl (by rw [E.1]; decide) dX7_count_112
theorem oo_X7_count_113 {Γ : jΓ} {Q : jPost} (E : E_X7_count Γ Q) : jSA Γ Q 113 (o_iinc 3 (1)) 3 := so_iinc E.2.2.1 rfl (by rw [E.1]; decide) dX7_count_113
theorem oo_X7_count_116 {Γ : jΓ} {Q : jPost} (E : E_X7_count Γ Q) : jSA Γ Q 116 (o_goto 30) 3 := so_goto E.2.2.1 (by decide) dX7_count_116
theorem oo_X7_count_119 {Γ : jΓ} {Q : jPost} (E : E_X7_count Γ Q) : jSA Γ Q 119 (o_iload 2) 1 := so_iload_n E.2.2.1 rfl dX7_count_119
theorem oo_X7_count_120 {Γ : jΓ} {Q : jPost} (E : E_X7_count Γ Q) : jSA Γ Q 120 (o_ireti) 1 := so_ireti E.2.2.1 E.2.2.2 dX7_count_120
theorem oo_X7_count_121 {Γ : jΓ} {Q : jPost} (E : E_X7_count Γ Q) : jSA Γ Q 121 (o_iload 1) 1 := so_iload_n E.2.2.1 rfl dX7_count_121
theorem oo_X7_count_122 {Γ : jΓ} {Q : jPost} (E : E_X7_count Γ Q) : jSA Γ Q 122 (o_ifne 132) 3 := so_ifne E.2.2.1 (by decide) dX7_count_122
theorem oo_X7_count_125 {Γ : jΓ} {Q : jPost} (E : E_X7_count Γ Q) : jSA Γ Q 125 (o_aload 0) 1 := so_aload_n E.2.2.1 rfl dX7_count_125
theorem oo_X7_count_126 {Γ : jΓ} {Q : jPost} (E : E_X7_count Γ Q) : jSA Γ Q 126 (o_getf 7 8) 3 := so_getf (ci := 7) E.2.2.1 wi_X7_count_X7 (by rw [E.2.1]; rfl) 8 (by decide) wl_X7_count_81 dX7_count_126
theorem oo_X7_count_129 {Γ : jΓ} {Q : jPost} (E : E_X7_count Γ Q) : jSA Γ Q 129 (o_goto 169) 3 := so_goto E.2.2.1 (by decide) dX7_count_129
theorem oo_X7_count_132 {Γ : jΓ} {Q : jPost} (E : E_X7_count Γ Q) : jSA Γ Q 132 (o_iload 1) 1 := so_iload_n E.2.2.1 rfl dX7_count_132
theorem oo_X7_count_133 {Γ : jΓ} {Q : jPost} (E : E_X7_count Γ Q) : jSA Γ Q 133 (o_ic (2)) 1 := so_iconst E.2.2.1 rfl dX7_count_133
theorem oo_X7_count_134 {Γ : jΓ} {Q : jPost} (E : E_X7_count Γ Q) : jSA Γ Q 134 (o_icne 144) 3 := so_icne E.2.2.1 (by decide) dX7_count_134
theorem oo_X7_count_137 {Γ : jΓ} {Q : jPost} (E : E_X7_count Γ Q) : jSA Γ Q 137 (o_aload 0) 1 := so_aload_n E.2.2.1 rfl dX7_count_137
theorem oo_X7_count_138 {Γ : jΓ} {Q : jPost} (E : E_X7_count Γ Q) : jSA Γ Q 138 (o_getf 7 14) 3 := so_getf (ci := 7) E.2.2.1 wi_X7_count_X7 (by rw [E.2.1]; rfl) 14 (by decide) wl_X7_count_94 dX7_count_138
theorem oo_X7_count_141 {Γ : jΓ} {Q : jPost} (E : E_X7_count Γ Q) : jSA Γ Q 141 (o_goto 169) 3 := so_goto E.2.2.1 (by decide) dX7_count_141
theorem oo_X7_count_144 {Γ : jΓ} {Q : jPost} (E : E_X7_count Γ Q) : jSA Γ Q 144 (o_iload 1) 1 := so_iload_n E.2.2.1 rfl dX7_count_144
theorem oo_X7_count_145 {Γ : jΓ} {Q : jPost} (E : E_X7_count Γ Q) : jSA Γ Q 145 (o_ic (4)) 1 := so_iconst E.2.2.1 rfl dX7_count_145
theorem oo_X7_count_146 {Γ : jΓ} {Q : jPost} (E : E_X7_count Γ Q) : jSA Γ Q 146 (o_icne 156) 3 := so_icne E.2.2.1 (by decide) dX7_count_146
theorem oo_X7_count_149 {Γ : jΓ} {Q : jPost} (E : E_X7_count Γ Q) : jSA Γ Q 149 (o_aload 0) 1 := so_aload_n E.2.2.1 rfl dX7_count_149
theorem oo_X7_count_150 {Γ : jΓ} {Q : jPost} (E : E_X7_count Γ Q) : jSA Γ Q 150 (o_getf 7 1) 3 := so_getf (ci := 7) E.2.2.1 wi_X7_count_X7 (by rw [E.2.1]; rfl) 1 (by decide) wl_X7_count_84 dX7_count_150
theorem oo_X7_count_153 {Γ : jΓ} {Q : jPost} (E : E_X7_count Γ Q) : jSA Γ Q 153 (o_goto 169) 3 := so_goto E.2.2.1 (by decide) dX7_count_153
theorem oo_X7_count_156 {Γ : jΓ} {Q : jPost} (E : E_X7_count Γ Q) : jSA Γ Q 156 (o_iload 1) 1 := so_iload_n E.2.2.1 rfl dX7_count_156
theorem oo_X7_count_157 {Γ : jΓ} {Q : jPost} (E : E_X7_count Γ Q) : jSA Γ Q 157 (o_ic (5)) 1 := so_iconst E.2.2.1 rfl dX7_count_157
theorem oo_X7_count_158 {Γ : jΓ} {Q : jPost} (E : E_X7_count Γ Q) : jSA Γ Q 158 (o_icne 168) 3 := so_icne E.2.2.1 (by decide) dX7_count_158
theorem oo_X7_count_161 {Γ : jΓ} {Q : jPost} (E : E_X7_count Γ Q) : jSA Γ Q 161 (o_aload 0) 1 := so_aload_n E.2.2.1 rfl dX7_count_161
theorem oo_X7_count_162 {Γ : jΓ} {Q : jPost} (E : E_X7_count Γ Q) : jSA Γ Q 162 (o_getf 7 0) 3 := so_getf (ci := 7) E.2.2.1 wi_X7_count_X7 (by rw [E.2.1]; rfl) 0 (by decide) wl_X7_count_77 dX7_count_162
theorem oo_X7_count_165 {Γ : jΓ} {Q : jPost} (E : E_X7_count Γ Q) : jSA Γ Q 165 (o_goto 169) 3 := so_goto E.2.2.1 (by decide) dX7_count_165
theorem oo_X7_count_168 {Γ : jΓ} {Q : jPost} (E : E_X7_count Γ Q) : jSA Γ Q 168 (o_ic (-1)) 1 := so_iconst E.2.2.1 rfl dX7_count_168
theorem oo_X7_count_169 {Γ : jΓ} {Q : jPost} (E : E_X7_count Γ Q) : jSA Γ Q 169 (o_ireti) 1 := so_ireti E.2.2.1 E.2.2.2 dX7_count_169
theorem ok_X7_count_0 {Γ : jΓ} {Q : jPost} (E : E_X7_count Γ Q) : jSS Γ Q 0 sg_X7_count_0 := ⟨oo_X7_count_0 E, oo_X7_count_1 E, oo_X7_count_2 E, oo_X7_count_3 E, oo_X7_count_4 E, oo_X7_count_7 E, oo_X7_count_8 E, oo_X7_count_9 E, oo_X7_count_12 E, oo_X7_count_13 E, oo_X7_count_15 E, oo_X7_count_17 E, oo_X7_count_18 E, oo_X7_count_21 E, oo_X7_count_22 E, oo_X7_count_25 E, oo_X7_count_28 E, oo_X7_count_29 E, trivial⟩
theorem ok_X7_count_28 {Γ : jΓ} {Q : jPost} (E : E_X7_count Γ Q) : jSS Γ Q 28 sg_X7_count_28 := ⟨oo_X7_count_28 E, oo_X7_count_29 E, trivial⟩
theorem ok_X7_count_30 {Γ : jΓ} {Q : jPost} (E : E_X7_count Γ Q) : jSS Γ Q 30 sg_X7_count_30 := ⟨oo_X7_count_30 E, oo_X7_count_31 E, oo_X7_count_33 E, oo_X7_count_36 E, oo_X7_count_37 E, oo_X7_count_38 E, oo_X7_count_41 E, oo_X7_count_42 E, oo_X7_count_45 E, oo_X7_count_46 E, oo_X7_count_47 E, oo_X7_count_50 E, oo_X7_count_51 E, trivial⟩
theorem ok_X7_count_54 {Γ : jΓ} {Q : jPost} (E : E_X7_count Γ Q) : jSS Γ Q 54 sg_X7_count_54 := ⟨oo_X7_count_54 E, oo_X7_count_55 E, trivial⟩
theorem ok_X7_count_58 {Γ : jΓ} {Q : jPost} (E : E_X7_count Γ Q) : jSS Γ Q 58 sg_X7_count_58 := ⟨oo_X7_count_58 E, oo_X7_count_59 E, oo_X7_count_60 E, oo_X7_count_63 E, oo_X7_count_64 E, oo_X7_count_67 E, oo_X7_count_68 E, oo_X7_count_69 E, oo_X7_count_72 E, oo_X7_count_73 E, trivial⟩
theorem ok_X7_count_76 {Γ : jΓ} {Q : jPost} (E : E_X7_count Γ Q) : jSS Γ Q 76 sg_X7_count_76 := ⟨oo_X7_count_76 E, oo_X7_count_77 E, trivial⟩
theorem ok_X7_count_80 {Γ : jΓ} {Q : jPost} (E : E_X7_count Γ Q) : jSS Γ Q 80 sg_X7_count_80 := ⟨oo_X7_count_80 E, oo_X7_count_81 E, oo_X7_count_84 E, oo_X7_count_85 E, oo_X7_count_86 E, oo_X7_count_87 E, oo_X7_count_89 E, oo_X7_count_90 E, oo_X7_count_93 E, oo_X7_count_94 E, trivial⟩
theorem ok_X7_count_97 {Γ : jΓ} {Q : jPost} (E : E_X7_count Γ Q) : jSS Γ Q 97 sg_X7_count_97 := ⟨oo_X7_count_97 E, trivial⟩
theorem ok_X7_count_98 {Γ : jΓ} {Q : jPost} (E : E_X7_count Γ Q) : jSS Γ Q 98 sg_X7_count_98 := ⟨oo_X7_count_98 E, oo_X7_count_100 E, oo_X7_count_101 E, oo_X7_count_103 E, oo_X7_count_106 E, oo_X7_count_107 E, trivial⟩
theorem ok_X7_count_110 {Γ : jΓ} {Q : jPost} (E : E_X7_count Γ Q) : jSS Γ Q 110 sg_X7_count_110 := ⟨oo_X7_count_110 E, oo_X7_count_111 E, oo_X7_count_112 E, oo_X7_count_113 E, oo_X7_count_116 E, trivial⟩
theorem ok_X7_count_111 {Γ : jΓ} {Q : jPost} (E : E_X7_count Γ Q) : jSS Γ Q 111 sg_X7_count_111 := ⟨oo_X7_count_111 E, oo_X7_count_112 E, oo_X7_count_113 E, oo_X7_count_116 E, trivial⟩
theorem ok_X7_count_119 {Γ : jΓ} {Q : jPost} (E : E_X7_count Γ Q) : jSS Γ Q 119 sg_X7_count_119 := ⟨oo_X7_count_119 E, oo_X7_count_120 E, trivial⟩
theorem ok_X7_count_121 {Γ : jΓ} {Q : jPost} (E : E_X7_count Γ Q) : jSS Γ Q 121 sg_X7_count_121 := ⟨oo_X7_count_121 E, oo_X7_count_122 E, oo_X7_count_125 E, oo_X7_count_126 E, oo_X7_count_129 E, trivial⟩
theorem ok_X7_count_132 {Γ : jΓ} {Q : jPost} (E : E_X7_count Γ Q) : jSS Γ Q 132 sg_X7_count_132 := ⟨oo_X7_count_132 E, oo_X7_count_133 E, oo_X7_count_134 E, oo_X7_count_137 E, oo_X7_count_138 E, oo_X7_count_141 E, trivial⟩
theorem ok_X7_count_144 {Γ : jΓ} {Q : jPost} (E : E_X7_count Γ Q) : jSS Γ Q 144 sg_X7_count_144 := ⟨oo_X7_count_144 E, oo_X7_count_145 E, oo_X7_count_146 E, oo_X7_count_149 E, oo_X7_count_150 E, oo_X7_count_153 E, trivial⟩
theorem ok_X7_count_156 {Γ : jΓ} {Q : jPost} (E : E_X7_count Γ Q) : jSS Γ Q 156 sg_X7_count_156 := ⟨oo_X7_count_156 E, oo_X7_count_157 E, oo_X7_count_158 E, oo_X7_count_161 E, oo_X7_count_162 E, oo_X7_count_165 E, trivial⟩
theorem ok_X7_count_168 {Γ : jΓ} {Q : jPost} (E : E_X7_count Γ Q) : jSS Γ Q 168 sg_X7_count_168 := ⟨oo_X7_count_168 E, oo_X7_count_169 E, trivial⟩
theorem ok_X7_count_169 {Γ : jΓ} {Q : jPost} (E : E_X7_count Γ Q) : jSS Γ Q 169 sg_X7_count_169 := ⟨oo_X7_count_169 E, trivial⟩
theorem okc_X7_count {Γ : jΓ} {Q : jPost} (E : E_X7_count Γ Q) (t : Nat) : jSS Γ Q t (cd_X7_count t) := by
  unfold cd_X7_count
  split
  · exact ok_X7_count_28 E
  · exact ok_X7_count_54 E
  · exact ok_X7_count_58 E
  · exact ok_X7_count_76 E
  · exact ok_X7_count_80 E
  · exact ok_X7_count_97 E
  · exact ok_X7_count_110 E
  · exact ok_X7_count_111 E
  · exact ok_X7_count_119 E
  · exact ok_X7_count_121 E
  · exact ok_X7_count_132 E
  · exact ok_X7_count_144 E
  · exact ok_X7_count_156 E
  · exact ok_X7_count_168 E
  · exact ok_X7_count_169 E
  · trivial
theorem m_X7_count_of (l : Launch) (hv : ∀ (G : jGt) (Q : jPost) (vs : List Value) (K : List jK) (h : jM), jHd cd_X7_count G Q sg_X7_count_0 0 → jHd cd_X7_count G Q sg_X7_count_30 30 → jHd cd_X7_count G Q sg_X7_count_98 98 → T_X7_count vs K h Q → (lg_sl vs).length ≤ 5 ∧ G 0 (jinit vs 5) [] K h 0 0) : jHolds vwCl l yX7_count wsX7_count 1 22 0 0 T_X7_count := by
  refine jMet (cc := cX7_count) (maxL := 5) (rt := (some .int)) (by decide +kernel) rfl (fun Γ Q vs K h hl hn hcl C hR hT => hv (jG Γ) Q vs K h ?_ ?_ ?_ hT)
  · exact fun n L st K h ce sl => jwp_ok (okc_X7_count ⟨hn, hcl, C, hR⟩) n sg_X7_count_0 0 (ok_X7_count_0 ⟨hn, hcl, C, hR⟩) L st K h ce sl
  · exact fun n L st K h ce sl => jwp_ok (okc_X7_count ⟨hn, hcl, C, hR⟩) n sg_X7_count_30 30 (ok_X7_count_30 ⟨hn, hcl, C, hR⟩) L st K h ce sl
  · exact fun n L st K h ce sl => jwp_ok (okc_X7_count ⟨hn, hcl, C, hR⟩) n sg_X7_count_98 98 (ok_X7_count_98 ⟨hn, hcl, C, hR⟩) L st K h ce sl
set_option maxHeartbeats 4000000 in
set_option maxRecDepth 100000 in
theorem v_X7_count {G : jGt} {Q : jPost} {K : List jK} {h : jM} {w : Int32} (hT : jXM K ∧ (¬ (w = 1 ∨ w = 3 ∨ (10 ≤ w ∧ w ≤ 9 + h 37 1)) → Q (some (.int (if w = 0 then h 37 8 else if w = 2 then h 37 14 else if w = 4 then h 37 1 else if w = 5 then h 37 0 else -1))) K h) ∧ (w = 1 ∨ w = 3 ∨ (10 ≤ w ∧ w ≤ 9 + h 37 1) → Q (some (.int (nI (jcnt (mCp h w) 57600)))) K h)) (H0 : jHd cd_X7_count G Q sg_X7_count_0 0) (H30 : jHd cd_X7_count G Q sg_X7_count_30 30) (H98 : jHd cd_X7_count G Q sg_X7_count_98 98) : G 0 [some (.ref 37), some (.int w), none, none, none] [] K h 0 0 := by
  obtain ⟨hM, hT0, hT1⟩ := hT
  have loop : (w = 1 ∨ w = 3 ∨ (10 ≤ w ∧ w ≤ 9 + h 37 1)) → ∀ m k, k + m = 57600 → ∀ x4, G 30 [some (.ref 37), some (.int w), some (.int (nI (jcnt (mCp h w) k))), some (.int (nI k)), x4] [] K h 0 0 := by
    intro hw m
    have hT1 := hT1 hw
    induction m with
    | zero =>
      intro k hk x4
      have ek : k = 57600 := by omega
      subst ek
      have hle : (57600 : Int32) ≤ nI 57600 := by decide
      generalize nI 57600 = z at hle ⊢
      refine H30 60 _ _ _ _ _ _ ?_
      simp only [sg_X7_count_0, sg_X7_count_28, sg_X7_count_30, sg_X7_count_54, sg_X7_count_58, sg_X7_count_76, sg_X7_count_80, sg_X7_count_97, sg_X7_count_98, sg_X7_count_110, sg_X7_count_111, sg_X7_count_119, sg_X7_count_121, sg_X7_count_132, sg_X7_count_144, sg_X7_count_156, sg_X7_count_168, sg_X7_count_169, cd_X7_count, jwp, o_ic, o_lc, o_iload, o_lload, o_aload, o_istore, o_lstore, o_astore, o_iinc, o_pop, o_dup, o_dup2, o_iadd, o_isub, o_imul, o_iand, o_ior, o_ishl, o_ladd, o_lmul, o_land, o_lor, o_idiv, o_irem, o_ineg, o_i2l, o_l2i, o_i2b, o_i2s, o_lushr, o_lshr, o_lshl, o_lcmp, o_ifeq, o_ifne, o_iflt, o_ifge, o_ifgt, o_ifle, o_iceq, o_icne, o_iclt, o_icge, o_icgt, o_icle, o_goto, o_tsw, jsw, o_lsw, jlk, o_getf, o_putf, o_putz, o_iald, o_zald, o_iast, o_zast, o_aald, o_alen, o_gets, o_zld, o_zlen, o_cpy, o_call, o_callV, o_ireti, o_iretz, o_lret, o_vret, jg, js, jkp, jkill, jsp, jcs, jfw, jov, Value.category, Option.toList_some, Option.toList_none, List.nil_append, List.cons_append, List.append_nil, Nat.reduceAdd, true_and, and_true, jb0, jb01, jb1, jem, true_or, or_true, Classical.not_not, forall_const, List.length_cons, List.length_nil, Nat.reduceLeDiff, Nat.zero_le, Nat.reduceLT, and_self, not_true_eq_false, not_false_eq_true, false_imp_iff, true_imp_iff, implies_true, and_false, false_and, or_false, false_or, hM, km_37_0 hM, km_37_1 hM, km_37_2 hM, km_37_3 hM, km_37_4 hM, km_37_5 hM, km_37_6 hM, km_37_7 hM, km_37_8 hM, km_37_9 hM, km_37_10 hM, km_37_11 hM, km_37_12 hM, km_37_13 hM, km_37_14 hM, km_37_15 hM, km_37_16 hM, km_37_17 hM, km_37_18 hM, km_37_19 hM, km_37_20 hM, km_37_21 hM, km_37_22 hM, km_37_23 hM, km_37_24 hM, km_37_25 hM, km_37_26 hM, km_37_27 hM, km_37_28 hM, km_37_29 hM, km_37_30 hM, km_37_31 hM, km_37_32 hM, kmo_37 hM, kma_38 hM, kma_39 hM, kma_40 hM, kma_41 hM, kma_42 hM, kma_43 hM, kma_44 hM, kma_45 hM, kma_46 hM, kma_47 hM, kma_48 hM, kma_49 hM, kma_50 hM, kma_52 hM, kma_53 hM, kma_54 hM, kma_55 hM, kma_56 hM, kma_51 hM, hle]
      exact hT1
    | succ m ih =>
      intro k hk x4
      have hj := jcnt_le (mCp h w) k
      have hlt : ¬ (57600 : Int32) ≤ nI k := fun z => absurd ((nI_leI (a := 57600) (by omega) (by omega)).mp z) (by omega)
      have hvi : vp_in (nI k) 57600 := vp_in_nI (by omega) (by decide)
      have h98 : ∀ b : Int32, (b = 1 ∧ mCp h w k) ∨ (b = 0 ∧ ¬ mCp h w k) → G 98 [some (.ref 37), some (.int w), some (.int (nI (jcnt (mCp h w) k))), some (.int (nI k)), x4] [.int b] K h 0 0 := by
        intro b hb
        have h2 := ih (k + 1) (by omega) (some (.int b))
        have e1 : mCp h w k → jcnt (mCp h w) (k + 1) = jcnt (mCp h w) k + 1 := fun z => by
          show jcnt _ k + @ite Nat _ (Classical.propDecidable _) 1 0 = _
          rw [if_pos z]
        have e0 : ¬ mCp h w k → jcnt (mCp h w) (k + 1) = jcnt (mCp h w) k := fun z => by
          show jcnt _ k + @ite Nat _ (Classical.propDecidable _) 1 0 = _
          rw [if_neg z, Nat.add_zero]
        rcases hb with ⟨rfl, hp⟩ | ⟨rfl, hp⟩
        · rw [e1 hp] at h2
          generalize jcnt (mCp h w) k = n at h2 ⊢
          refine H98 60 _ _ _ _ _ _ ?_
          simp only [sg_X7_count_0, sg_X7_count_28, sg_X7_count_30, sg_X7_count_54, sg_X7_count_58, sg_X7_count_76, sg_X7_count_80, sg_X7_count_97, sg_X7_count_98, sg_X7_count_110, sg_X7_count_111, sg_X7_count_119, sg_X7_count_121, sg_X7_count_132, sg_X7_count_144, sg_X7_count_156, sg_X7_count_168, sg_X7_count_169, cd_X7_count, jwp, o_ic, o_lc, o_iload, o_lload, o_aload, o_istore, o_lstore, o_astore, o_iinc, o_pop, o_dup, o_dup2, o_iadd, o_isub, o_imul, o_iand, o_ior, o_ishl, o_ladd, o_lmul, o_land, o_lor, o_idiv, o_irem, o_ineg, o_i2l, o_l2i, o_i2b, o_i2s, o_lushr, o_lshr, o_lshl, o_lcmp, o_ifeq, o_ifne, o_iflt, o_ifge, o_ifgt, o_ifle, o_iceq, o_icne, o_iclt, o_icge, o_icgt, o_icle, o_goto, o_tsw, jsw, o_lsw, jlk, o_getf, o_putf, o_putz, o_iald, o_zald, o_iast, o_zast, o_aald, o_alen, o_gets, o_zld, o_zlen, o_cpy, o_call, o_callV, o_ireti, o_iretz, o_lret, o_vret, jg, js, jkp, jkill, jsp, jcs, jfw, jov, Value.category, Option.toList_some, Option.toList_none, List.nil_append, List.cons_append, List.append_nil, Nat.reduceAdd, true_and, and_true, jb0, jb01, jb1, jem, true_or, or_true, Classical.not_not, forall_const, List.length_cons, List.length_nil, Nat.reduceLeDiff, Nat.zero_le, Nat.reduceLT, and_self, not_true_eq_false, not_false_eq_true, false_imp_iff, true_imp_iff, implies_true, and_false, false_and, or_false, false_or, hM, km_37_0 hM, km_37_1 hM, km_37_2 hM, km_37_3 hM, km_37_4 hM, km_37_5 hM, km_37_6 hM, km_37_7 hM, km_37_8 hM, km_37_9 hM, km_37_10 hM, km_37_11 hM, km_37_12 hM, km_37_13 hM, km_37_14 hM, km_37_15 hM, km_37_16 hM, km_37_17 hM, km_37_18 hM, km_37_19 hM, km_37_20 hM, km_37_21 hM, km_37_22 hM, km_37_23 hM, km_37_24 hM, km_37_25 hM, km_37_26 hM, km_37_27 hM, km_37_28 hM, km_37_29 hM, km_37_30 hM, km_37_31 hM, km_37_32 hM, kmo_37 hM, kma_38 hM, kma_39 hM, kma_40 hM, kma_41 hM, kma_42 hM, kma_43 hM, kma_44 hM, kma_45 hM, kma_46 hM, kma_47 hM, kma_48 hM, kma_49 hM, kma_50 hM, kma_52 hM, kma_53 hM, kma_54 hM, kma_55 hM, kma_56 hM, kma_51 hM]
          rw [nI_1, nI_1]
          first | exact h2 | exact ⟨fun z => absurd z (by decide), fun _ => h2⟩ | exact ⟨fun _ => h2, fun z => absurd z (by decide)⟩
        · rw [e0 hp] at h2
          generalize jcnt (mCp h w) k = n at h2 ⊢
          refine H98 60 _ _ _ _ _ _ ?_
          simp only [sg_X7_count_0, sg_X7_count_28, sg_X7_count_30, sg_X7_count_54, sg_X7_count_58, sg_X7_count_76, sg_X7_count_80, sg_X7_count_97, sg_X7_count_98, sg_X7_count_110, sg_X7_count_111, sg_X7_count_119, sg_X7_count_121, sg_X7_count_132, sg_X7_count_144, sg_X7_count_156, sg_X7_count_168, sg_X7_count_169, cd_X7_count, jwp, o_ic, o_lc, o_iload, o_lload, o_aload, o_istore, o_lstore, o_astore, o_iinc, o_pop, o_dup, o_dup2, o_iadd, o_isub, o_imul, o_iand, o_ior, o_ishl, o_ladd, o_lmul, o_land, o_lor, o_idiv, o_irem, o_ineg, o_i2l, o_l2i, o_i2b, o_i2s, o_lushr, o_lshr, o_lshl, o_lcmp, o_ifeq, o_ifne, o_iflt, o_ifge, o_ifgt, o_ifle, o_iceq, o_icne, o_iclt, o_icge, o_icgt, o_icle, o_goto, o_tsw, jsw, o_lsw, jlk, o_getf, o_putf, o_putz, o_iald, o_zald, o_iast, o_zast, o_aald, o_alen, o_gets, o_zld, o_zlen, o_cpy, o_call, o_callV, o_ireti, o_iretz, o_lret, o_vret, jg, js, jkp, jkill, jsp, jcs, jfw, jov, Value.category, Option.toList_some, Option.toList_none, List.nil_append, List.cons_append, List.append_nil, Nat.reduceAdd, true_and, and_true, jb0, jb01, jb1, jem, true_or, or_true, Classical.not_not, forall_const, List.length_cons, List.length_nil, Nat.reduceLeDiff, Nat.zero_le, Nat.reduceLT, and_self, not_true_eq_false, not_false_eq_true, false_imp_iff, true_imp_iff, implies_true, and_false, false_and, or_false, false_or, hM, km_37_0 hM, km_37_1 hM, km_37_2 hM, km_37_3 hM, km_37_4 hM, km_37_5 hM, km_37_6 hM, km_37_7 hM, km_37_8 hM, km_37_9 hM, km_37_10 hM, km_37_11 hM, km_37_12 hM, km_37_13 hM, km_37_14 hM, km_37_15 hM, km_37_16 hM, km_37_17 hM, km_37_18 hM, km_37_19 hM, km_37_20 hM, km_37_21 hM, km_37_22 hM, km_37_23 hM, km_37_24 hM, km_37_25 hM, km_37_26 hM, km_37_27 hM, km_37_28 hM, km_37_29 hM, km_37_30 hM, km_37_31 hM, km_37_32 hM, kmo_37 hM, kma_38 hM, kma_39 hM, kma_40 hM, kma_41 hM, kma_42 hM, kma_43 hM, kma_44 hM, kma_45 hM, kma_46 hM, kma_47 hM, kma_48 hM, kma_49 hM, kma_50 hM, kma_52 hM, kma_53 hM, kma_54 hM, kma_55 hM, kma_56 hM, kma_51 hM]
          rw [nI_1, Int32.add_zero]
          first | exact h2 | exact ⟨fun z => absurd rfl z, fun _ => h2⟩ | exact ⟨fun _ => h2, fun z => absurd rfl z⟩
      generalize jcnt (mCp h w) k = n at h98 ⊢
      refine H30 60 _ _ _ _ _ _ ?_
      simp only [sg_X7_count_0, sg_X7_count_28, sg_X7_count_30, sg_X7_count_54, sg_X7_count_58, sg_X7_count_76, sg_X7_count_80, sg_X7_count_97, sg_X7_count_98, sg_X7_count_110, sg_X7_count_111, sg_X7_count_119, sg_X7_count_121, sg_X7_count_132, sg_X7_count_144, sg_X7_count_156, sg_X7_count_168, sg_X7_count_169, cd_X7_count, jwp, o_ic, o_lc, o_iload, o_lload, o_aload, o_istore, o_lstore, o_astore, o_iinc, o_pop, o_dup, o_dup2, o_iadd, o_isub, o_imul, o_iand, o_ior, o_ishl, o_ladd, o_lmul, o_land, o_lor, o_idiv, o_irem, o_ineg, o_i2l, o_l2i, o_i2b, o_i2s, o_lushr, o_lshr, o_lshl, o_lcmp, o_ifeq, o_ifne, o_iflt, o_ifge, o_ifgt, o_ifle, o_iceq, o_icne, o_iclt, o_icge, o_icgt, o_icle, o_goto, o_tsw, jsw, o_lsw, jlk, o_getf, o_putf, o_putz, o_iald, o_zald, o_iast, o_zast, o_aald, o_alen, o_gets, o_zld, o_zlen, o_cpy, o_call, o_callV, o_ireti, o_iretz, o_lret, o_vret, jg, js, jkp, jkill, jsp, jcs, jfw, jov, Value.category, Option.toList_some, Option.toList_none, List.nil_append, List.cons_append, List.append_nil, Nat.reduceAdd, true_and, and_true, jb0, jb01, jb1, jem, true_or, or_true, Classical.not_not, forall_const, List.length_cons, List.length_nil, Nat.reduceLeDiff, Nat.zero_le, Nat.reduceLT, and_self, not_true_eq_false, not_false_eq_true, false_imp_iff, true_imp_iff, implies_true, and_false, false_and, or_false, false_or, hM, km_37_0 hM, km_37_1 hM, km_37_2 hM, km_37_3 hM, km_37_4 hM, km_37_5 hM, km_37_6 hM, km_37_7 hM, km_37_8 hM, km_37_9 hM, km_37_10 hM, km_37_11 hM, km_37_12 hM, km_37_13 hM, km_37_14 hM, km_37_15 hM, km_37_16 hM, km_37_17 hM, km_37_18 hM, km_37_19 hM, km_37_20 hM, km_37_21 hM, km_37_22 hM, km_37_23 hM, km_37_24 hM, km_37_25 hM, km_37_26 hM, km_37_27 hM, km_37_28 hM, km_37_29 hM, km_37_30 hM, km_37_31 hM, km_37_32 hM, kmo_37 hM, kma_38 hM, kma_39 hM, kma_40 hM, kma_41 hM, kma_42 hM, kma_43 hM, kma_44 hM, kma_45 hM, kma_46 hM, kma_47 hM, kma_48 hM, kma_49 hM, kma_50 hM, kma_52 hM, kma_53 hM, kma_54 hM, kma_55 hM, kma_56 hM, kma_51 hM, hlt, hvi, nI_clamp (show k < 2147483648 by omega)]
      unfold mCp at h98
      by_cases c1 : w = 1
      · subst c1
        simp only [if_true, and_self, not_true_eq_false, not_false_eq_true, false_imp_iff, true_imp_iff, implies_true, and_false, false_and, or_false, false_or] at h98 ⊢
        grind
      · by_cases c3 : w = 3
        · subst c3
          simp only [c1, if_false, if_true, and_self, not_true_eq_false, not_false_eq_true, false_imp_iff, true_imp_iff, implies_true, and_false, false_and, or_false, false_or] at h98 ⊢
          grind
        · simp only [c1, c3, if_false, and_self, not_true_eq_false, not_false_eq_true, false_imp_iff, true_imp_iff, implies_true, and_false, false_and, or_false, false_or] at h98 ⊢
          grind
  refine H0 80 _ _ _ _ _ _ ?_
  simp only [sg_X7_count_0, sg_X7_count_28, sg_X7_count_30, sg_X7_count_54, sg_X7_count_58, sg_X7_count_76, sg_X7_count_80, sg_X7_count_97, sg_X7_count_98, sg_X7_count_110, sg_X7_count_111, sg_X7_count_119, sg_X7_count_121, sg_X7_count_132, sg_X7_count_144, sg_X7_count_156, sg_X7_count_168, sg_X7_count_169, cd_X7_count, jwp, o_ic, o_lc, o_iload, o_lload, o_aload, o_istore, o_lstore, o_astore, o_iinc, o_pop, o_dup, o_dup2, o_iadd, o_isub, o_imul, o_iand, o_ior, o_ishl, o_ladd, o_lmul, o_land, o_lor, o_idiv, o_irem, o_ineg, o_i2l, o_l2i, o_i2b, o_i2s, o_lushr, o_lshr, o_lshl, o_lcmp, o_ifeq, o_ifne, o_iflt, o_ifge, o_ifgt, o_ifle, o_iceq, o_icne, o_iclt, o_icge, o_icgt, o_icle, o_goto, o_tsw, jsw, o_lsw, jlk, o_getf, o_putf, o_putz, o_iald, o_zald, o_iast, o_zast, o_aald, o_alen, o_gets, o_zld, o_zlen, o_cpy, o_call, o_callV, o_ireti, o_iretz, o_lret, o_vret, jg, js, jkp, jkill, jsp, jcs, jfw, jov, Value.category, Option.toList_some, Option.toList_none, List.nil_append, List.cons_append, List.append_nil, Nat.reduceAdd, true_and, and_true, jb0, jb01, jb1, jem, true_or, or_true, Classical.not_not, forall_const, List.length_cons, List.length_nil, Nat.reduceLeDiff, Nat.zero_le, Nat.reduceLT, and_self, not_true_eq_false, not_false_eq_true, false_imp_iff, true_imp_iff, implies_true, and_false, false_and, or_false, false_or, hM, km_37_0 hM, km_37_1 hM, km_37_2 hM, km_37_3 hM, km_37_4 hM, km_37_5 hM, km_37_6 hM, km_37_7 hM, km_37_8 hM, km_37_9 hM, km_37_10 hM, km_37_11 hM, km_37_12 hM, km_37_13 hM, km_37_14 hM, km_37_15 hM, km_37_16 hM, km_37_17 hM, km_37_18 hM, km_37_19 hM, km_37_20 hM, km_37_21 hM, km_37_22 hM, km_37_23 hM, km_37_24 hM, km_37_25 hM, km_37_26 hM, km_37_27 hM, km_37_28 hM, km_37_29 hM, km_37_30 hM, km_37_31 hM, km_37_32 hM, kmo_37 hM, kma_38 hM, kma_39 hM, kma_40 hM, kma_41 hM, kma_42 hM, kma_43 hM, kma_44 hM, kma_45 hM, kma_46 hM, kma_47 hM, kma_48 hM, kma_49 hM, kma_50 hM, kma_52 hM, kma_53 hM, kma_54 hM, kma_55 hM, kma_56 hM, kma_51 hM, T_X7_in]
  have l0 : (w = 1 ∨ w = 3 ∨ (10 ≤ w ∧ w ≤ 9 + h 37 1)) → G 30 [some (.ref 37), some (.int w), some (.int 0), some (.int 0), none] [] K h 0 0 := fun z => loop z 57600 0 (by omega) none
  refine ⟨fun z => l0 (Or.inl z), fun z => ⟨fun y => l0 (Or.inr (Or.inl y)), fun y => ⟨fun x => ?_, fun x => l0 (Or.inr (Or.inr x))⟩⟩⟩
  have hT0 := hT0 (fun q => q.elim z (fun q => q.elim y x))
  refine ⟨fun a0 => ⟨fun a2 => ⟨fun a4 => ⟨fun a5 => ?_, fun a5 => ?_⟩, fun a4 => ?_⟩, fun a2 => ?_⟩, fun a0 => ?_⟩
  · rw [if_neg a0, if_neg a2, if_neg a4, if_neg a5] at hT0; exact hT0
  · rw [if_neg a0, if_neg a2, if_neg a4, if_pos a5] at hT0; exact hT0
  · rw [if_neg a0, if_neg a2, if_pos a4] at hT0; exact hT0
  · rw [if_neg a0, if_pos a2] at hT0; exact hT0
  · rw [if_pos a0] at hT0; exact hT0
theorem m_X7_count (l : Launch) : jHolds vwCl l yX7_count wsX7_count 1 22 0 0 T_X7_count := by
  refine m_X7_count_of l (fun G Q vs K h H0 H30 H98 hT => ?_)
  unfold T_X7_count at hT
  split at hT
  · obtain ⟨rfl, hT⟩ := hT
    exact ⟨Nat.le_of_ble_eq_true rfl, v_X7_count hT H0 H30 H98⟩
  · exact hT.elim
