/-! ===== the reference's act, act back ===== -/

/-! X7_acts -/
def T_X7_acts : jT := fun vs K h Q => match vs with
  | [.ref r0, .int a] => r0 = 37 ∧ (jXM K ∧ (∃ A : Nat, A < 6 ∧ a = nI A ∧ (h 37 0 = 0 ∨ h 37 0 = 1) ∧ aFl (mQ h) (mS h) ∧ aAn (mQ h) (mS h) A ∧ (aOK (mQ h) (mS h) A → Q (some (.int 1)) K (mActM h A)) ∧ (¬ aOK (mQ h) (mS h) A → Q (some (.int 0)) K h)))
  | _ => False
def sg_X7_acts_0 : jS := [(o_aload 0, 1), (o_getf 7 9, 3), (o_iload 1, 1), (o_iald, 1), (o_aload 0, 1), (o_getf 7 10, 3), (o_iload 1, 1), (o_iald, 1), (o_call 2 T_X7_cell, 3), (o_istore 2, 1), (o_aload 0, 1), (o_getf 7 2, 3), (o_iload 2, 1), (o_iald, 1), (o_istore 3, 1), (o_aload 0, 1), (o_getf 7 11, 3), (o_iload 1, 1), (o_iald, 1), (o_aload 0, 1), (o_getf 7 5, 3), (o_ic (12), 2), (o_aload 0, 1), (o_getf 7 12, 3), (o_iload 1, 1), (o_iald, 1), (o_imul, 1), (o_iload 3, 1), (o_iadd, 1), (o_iald, 1), (o_iadd, 1), (o_aload 0, 1), (o_callV 1 7 T_X7_directions, 3), (o_irem, 1)]
def sg_X7_acts_51 : jS := [(o_istore 4, 2), (o_aload 0, 1), (o_getf 7 9, 3), (o_iload 1, 1), (o_iald, 1), (o_aload 0, 1), (o_iload 4, 2), (o_callV 2 7 T_X7_dx, 3), (o_iadd, 1), (o_aload 0, 1), (o_getf 7 10, 3), (o_iload 1, 1), (o_iald, 1), (o_aload 0, 1), (o_iload 4, 2), (o_callV 2 7 T_X7_dy, 3), (o_iadd, 1), (o_call 2 T_X7_isCell, 3), (o_ifne 87, 3), (o_ic (0), 1), (o_iretz, 1)]
def sg_X7_acts_87 : jS := [(o_aload 0, 1), (o_getf 7 13, 3), (o_iload 1, 1), (o_iload 2, 1), (o_iast, 1), (o_aload 0, 1), (o_getf 7 11, 3), (o_iload 1, 1), (o_iload 4, 2), (o_iast, 1), (o_aload 0, 1), (o_getf 7 2, 3), (o_iload 2, 1), (o_iload 3, 1), (o_ic (1), 1), (o_iadd, 1), (o_aload 0, 1), (o_getf 7 1, 3), (o_irem, 1), (o_iast, 1), (o_aload 0, 1), (o_getf 7 9, 3), (o_iload 1, 1), (o_dup2, 1), (o_iald, 1), (o_aload 0, 1), (o_iload 4, 2), (o_callV 2 7 T_X7_dx, 3), (o_iadd, 1), (o_iast, 1), (o_aload 0, 1), (o_getf 7 10, 3), (o_iload 1, 1), (o_dup2, 1), (o_iald, 1), (o_aload 0, 1), (o_iload 4, 2), (o_callV 2 7 T_X7_dy, 3), (o_iadd, 1), (o_iast, 1), (o_ic (1), 1), (o_iretz, 1)]
def cd_X7_acts : Nat → jS := fun t => match t with
  | _ => []
theorem wl_X7_acts_14 : Cond.fieldLink RX7 14 (TX7 2).1 (TX7 2).2.1 (TX7 2).2.2.1 ∈ wsX7_acts := by decide +kernel
theorem wl_X7_acts_21 : Cond.fieldLink RX7 21 (TX7 5).1 (TX7 5).2.1 (TX7 5).2.2.1 ∈ wsX7_acts := by decide +kernel
theorem wl_X7_acts_27 : Cond.fieldLink RX7 27 (TX7 9).1 (TX7 9).2.1 (TX7 9).2.2.1 ∈ wsX7_acts := by decide +kernel
theorem wl_X7_acts_30 : Cond.fieldLink RX7 30 (TX7 10).1 (TX7 10).2.1 (TX7 10).2.2.1 ∈ wsX7_acts := by decide +kernel
theorem wl_X7_acts_33 : Cond.fieldLink RX7 33 (TX7 11).1 (TX7 11).2.1 (TX7 11).2.2.1 ∈ wsX7_acts := by decide +kernel
theorem wl_X7_acts_36 : Cond.fieldLink RX7 36 (TX7 12).1 (TX7 12).2.1 (TX7 12).2.2.1 ∈ wsX7_acts := by decide +kernel
theorem wl_X7_acts_39 : Cond.fieldLink RX7 39 (TX7 13).1 (TX7 13).2.1 (TX7 13).2.2.1 ∈ wsX7_acts := by decide +kernel
theorem wl_X7_acts_84 : Cond.fieldLink RX7 84 (TX7 1).1 (TX7 1).2.1 (TX7 1).2.2.1 ∈ wsX7_acts := by decide +kernel
theorem wi_X7_acts_X7 : ∀ w ∈ u_ws RX7 TX7 33, w ∈ wsX7_acts := by decide +kernel
def E_X7_acts (Γ : jΓ) (Q : jPost) : Prop := Γ.2.2.2.2.2.2.2.2.2.2.1 = 5 ∧ Γ.2.2.2.2.2.2.2.2.2.2.2.1 = vwCl ∧ jC Γ cX7_acts RX7 "acts" (some .boolean) wsX7_acts 2 43 0 0 ∧ jR Γ Q 0 0
theorem oo_X7_acts_0 {Γ : jΓ} {Q : jPost} (E : E_X7_acts Γ Q) : jSA Γ Q 0 (o_aload 0) 1 := so_aload_n E.2.2.1 rfl dX7_acts_0
theorem oo_X7_acts_1 {Γ : jΓ} {Q : jPost} (E : E_X7_acts Γ Q) : jSA Γ Q 1 (o_getf 7 9) 3 := so_getf (ci := 7) E.2.2.1 wi_X7_acts_X7 (by rw [E.2.1]; rfl) 9 (by decide) wl_X7_acts_27 dX7_acts_1
theorem oo_X7_acts_4 {Γ : jΓ} {Q : jPost} (E : E_X7_acts Γ Q) : jSA Γ Q 4 (o_iload 1) 1 := so_iload_n E.2.2.1 rfl dX7_acts_4
theorem oo_X7_acts_5 {Γ : jΓ} {Q : jPost} (E : E_X7_acts Γ Q) : jSA Γ Q 5 (o_iald) 1 := so_iald E.2.2.1 dX7_acts_5
theorem oo_X7_acts_6 {Γ : jΓ} {Q : jPost} (E : E_X7_acts Γ Q) : jSA Γ Q 6 (o_aload 0) 1 := so_aload_n E.2.2.1 rfl dX7_acts_6
theorem oo_X7_acts_7 {Γ : jΓ} {Q : jPost} (E : E_X7_acts Γ Q) : jSA Γ Q 7 (o_getf 7 10) 3 := so_getf (ci := 7) E.2.2.1 wi_X7_acts_X7 (by rw [E.2.1]; rfl) 10 (by decide) wl_X7_acts_30 dX7_acts_7
theorem oo_X7_acts_10 {Γ : jΓ} {Q : jPost} (E : E_X7_acts Γ Q) : jSA Γ Q 10 (o_iload 1) 1 := so_iload_n E.2.2.1 rfl dX7_acts_10
theorem oo_X7_acts_11 {Γ : jΓ} {Q : jPost} (E : E_X7_acts Γ Q) : jSA Γ Q 11 (o_iald) 1 := so_iald E.2.2.1 dX7_acts_11
theorem oo_X7_acts_12 {Γ : jΓ} {Q : jPost} (E : E_X7_acts Γ Q) : jSA Γ Q 12 (o_call 2 T_X7_cell) 3 := so_callS E.2.2.1 gX7_acts_X7_cell (by decide +kernel) rfl (by rw [E.2.1]; exact m_X7_cell _) (by decide) (by decide) dX7_acts_12
theorem oo_X7_acts_15 {Γ : jΓ} {Q : jPost} (E : E_X7_acts Γ Q) : jSA Γ Q 15 (o_istore 2) 1 := so_istore_n E.2.2.1 rfl (by rw [E.1]; decide) dX7_acts_15
theorem oo_X7_acts_16 {Γ : jΓ} {Q : jPost} (E : E_X7_acts Γ Q) : jSA Γ Q 16 (o_aload 0) 1 := so_aload_n E.2.2.1 rfl dX7_acts_16
theorem oo_X7_acts_17 {Γ : jΓ} {Q : jPost} (E : E_X7_acts Γ Q) : jSA Γ Q 17 (o_getf 7 2) 3 := so_getf (ci := 7) E.2.2.1 wi_X7_acts_X7 (by rw [E.2.1]; rfl) 2 (by decide) wl_X7_acts_14 dX7_acts_17
theorem oo_X7_acts_20 {Γ : jΓ} {Q : jPost} (E : E_X7_acts Γ Q) : jSA Γ Q 20 (o_iload 2) 1 := so_iload_n E.2.2.1 rfl dX7_acts_20
theorem oo_X7_acts_21 {Γ : jΓ} {Q : jPost} (E : E_X7_acts Γ Q) : jSA Γ Q 21 (o_iald) 1 := so_iald E.2.2.1 dX7_acts_21
theorem oo_X7_acts_22 {Γ : jΓ} {Q : jPost} (E : E_X7_acts Γ Q) : jSA Γ Q 22 (o_istore 3) 1 := so_istore_n E.2.2.1 rfl (by rw [E.1]; decide) dX7_acts_22
theorem oo_X7_acts_23 {Γ : jΓ} {Q : jPost} (E : E_X7_acts Γ Q) : jSA Γ Q 23 (o_aload 0) 1 := so_aload_n E.2.2.1 rfl dX7_acts_23
theorem oo_X7_acts_24 {Γ : jΓ} {Q : jPost} (E : E_X7_acts Γ Q) : jSA Γ Q 24 (o_getf 7 11) 3 := so_getf (ci := 7) E.2.2.1 wi_X7_acts_X7 (by rw [E.2.1]; rfl) 11 (by decide) wl_X7_acts_33 dX7_acts_24
theorem oo_X7_acts_27 {Γ : jΓ} {Q : jPost} (E : E_X7_acts Γ Q) : jSA Γ Q 27 (o_iload 1) 1 := so_iload_n E.2.2.1 rfl dX7_acts_27
theorem oo_X7_acts_28 {Γ : jΓ} {Q : jPost} (E : E_X7_acts Γ Q) : jSA Γ Q 28 (o_iald) 1 := so_iald E.2.2.1 dX7_acts_28
theorem oo_X7_acts_29 {Γ : jΓ} {Q : jPost} (E : E_X7_acts Γ Q) : jSA Γ Q 29 (o_aload 0) 1 := so_aload_n E.2.2.1 rfl dX7_acts_29
theorem oo_X7_acts_30 {Γ : jΓ} {Q : jPost} (E : E_X7_acts Γ Q) : jSA Γ Q 30 (o_getf 7 5) 3 := so_getf (ci := 7) E.2.2.1 wi_X7_acts_X7 (by rw [E.2.1]; rfl) 5 (by decide) wl_X7_acts_21 dX7_acts_30
theorem oo_X7_acts_33 {Γ : jΓ} {Q : jPost} (E : E_X7_acts Γ Q) : jSA Γ Q 33 (o_ic (12)) 2 := so_bipush E.2.2.1 rfl dX7_acts_33
theorem oo_X7_acts_35 {Γ : jΓ} {Q : jPost} (E : E_X7_acts Γ Q) : jSA Γ Q 35 (o_aload 0) 1 := so_aload_n E.2.2.1 rfl dX7_acts_35
theorem oo_X7_acts_36 {Γ : jΓ} {Q : jPost} (E : E_X7_acts Γ Q) : jSA Γ Q 36 (o_getf 7 12) 3 := so_getf (ci := 7) E.2.2.1 wi_X7_acts_X7 (by rw [E.2.1]; rfl) 12 (by decide) wl_X7_acts_36 dX7_acts_36
theorem oo_X7_acts_39 {Γ : jΓ} {Q : jPost} (E : E_X7_acts Γ Q) : jSA Γ Q 39 (o_iload 1) 1 := so_iload_n E.2.2.1 rfl dX7_acts_39
theorem oo_X7_acts_40 {Γ : jΓ} {Q : jPost} (E : E_X7_acts Γ Q) : jSA Γ Q 40 (o_iald) 1 := so_iald E.2.2.1 dX7_acts_40
theorem oo_X7_acts_41 {Γ : jΓ} {Q : jPost} (E : E_X7_acts Γ Q) : jSA Γ Q 41 (o_imul) 1 := so_imul E.2.2.1 dX7_acts_41
theorem oo_X7_acts_42 {Γ : jΓ} {Q : jPost} (E : E_X7_acts Γ Q) : jSA Γ Q 42 (o_iload 3) 1 := so_iload_n E.2.2.1 rfl dX7_acts_42
theorem oo_X7_acts_43 {Γ : jΓ} {Q : jPost} (E : E_X7_acts Γ Q) : jSA Γ Q 43 (o_iadd) 1 := so_iadd E.2.2.1 dX7_acts_43
theorem oo_X7_acts_44 {Γ : jΓ} {Q : jPost} (E : E_X7_acts Γ Q) : jSA Γ Q 44 (o_iald) 1 := so_iald E.2.2.1 dX7_acts_44
theorem oo_X7_acts_45 {Γ : jΓ} {Q : jPost} (E : E_X7_acts Γ Q) : jSA Γ Q 45 (o_iadd) 1 := so_iadd E.2.2.1 dX7_acts_45
theorem oo_X7_acts_46 {Γ : jΓ} {Q : jPost} (E : E_X7_acts Γ Q) : jSA Γ Q 46 (o_aload 0) 1 := so_aload_n E.2.2.1 rfl dX7_acts_46
theorem oo_X7_acts_47 {Γ : jΓ} {Q : jPost} (E : E_X7_acts Γ Q) : jSA Γ Q 47 (o_callV 1 7 T_X7_directions) 3 := so_callV E.2.2.1 (ci := 7) (by rw [E.2.1]; rfl) gX7_acts_X7_directions (by decide +kernel) rfl (by rw [E.2.1]; exact m_X7_directions _) (by decide) (by decide) dX7_acts_47
theorem oo_X7_acts_50 {Γ : jΓ} {Q : jPost} (E : E_X7_acts Γ Q) : jSA Γ Q 50 (o_irem) 1 := so_irem E.2.2.1 dX7_acts_50
theorem oo_X7_acts_51 {Γ : jΓ} {Q : jPost} (E : E_X7_acts Γ Q) : jSA Γ Q 51 (o_istore 4) 2 := so_istore E.2.2.1 (by rw [E.1]; decide) dX7_acts_51
theorem oo_X7_acts_53 {Γ : jΓ} {Q : jPost} (E : E_X7_acts Γ Q) : jSA Γ Q 53 (o_aload 0) 1 := so_aload_n E.2.2.1 rfl dX7_acts_53
theorem oo_X7_acts_54 {Γ : jΓ} {Q : jPost} (E : E_X7_acts Γ Q) : jSA Γ Q 54 (o_getf 7 9) 3 := so_getf (ci := 7) E.2.2.1 wi_X7_acts_X7 (by rw [E.2.1]; rfl) 9 (by decide) wl_X7_acts_27 dX7_acts_54
theorem oo_X7_acts_57 {Γ : jΓ} {Q : jPost} (E : E_X7_acts Γ Q) : jSA Γ Q 57 (o_iload 1) 1 := so_iload_n E.2.2.1 rfl dX7_acts_57
theorem oo_X7_acts_58 {Γ : jΓ} {Q : jPost} (E : E_X7_acts Γ Q) : jSA Γ Q 58 (o_iald) 1 := so_iald E.2.2.1 dX7_acts_58
theorem oo_X7_acts_59 {Γ : jΓ} {Q : jPost} (E : E_X7_acts Γ Q) : jSA Γ Q 59 (o_aload 0) 1 := so_aload_n E.2.2.1 rfl dX7_acts_59
theorem oo_X7_acts_60 {Γ : jΓ} {Q : jPost} (E : E_X7_acts Γ Q) : jSA Γ Q 60 (o_iload 4) 2 := so_iload E.2.2.1 dX7_acts_60
theorem oo_X7_acts_62 {Γ : jΓ} {Q : jPost} (E : E_X7_acts Γ Q) : jSA Γ Q 62 (o_callV 2 7 T_X7_dx) 3 := so_callV E.2.2.1 (ci := 7) (by rw [E.2.1]; rfl) gX7_acts_X7_dx (by decide +kernel) rfl (by rw [E.2.1]; exact m_X7_dx _) (by decide) (by decide) dX7_acts_62
theorem oo_X7_acts_65 {Γ : jΓ} {Q : jPost} (E : E_X7_acts Γ Q) : jSA Γ Q 65 (o_iadd) 1 := so_iadd E.2.2.1 dX7_acts_65
theorem oo_X7_acts_66 {Γ : jΓ} {Q : jPost} (E : E_X7_acts Γ Q) : jSA Γ Q 66 (o_aload 0) 1 := so_aload_n E.2.2.1 rfl dX7_acts_66
theorem oo_X7_acts_67 {Γ : jΓ} {Q : jPost} (E : E_X7_acts Γ Q) : jSA Γ Q 67 (o_getf 7 10) 3 := so_getf (ci := 7) E.2.2.1 wi_X7_acts_X7 (by rw [E.2.1]; rfl) 10 (by decide) wl_X7_acts_30 dX7_acts_67
theorem oo_X7_acts_70 {Γ : jΓ} {Q : jPost} (E : E_X7_acts Γ Q) : jSA Γ Q 70 (o_iload 1) 1 := so_iload_n E.2.2.1 rfl dX7_acts_70
theorem oo_X7_acts_71 {Γ : jΓ} {Q : jPost} (E : E_X7_acts Γ Q) : jSA Γ Q 71 (o_iald) 1 := so_iald E.2.2.1 dX7_acts_71
theorem oo_X7_acts_72 {Γ : jΓ} {Q : jPost} (E : E_X7_acts Γ Q) : jSA Γ Q 72 (o_aload 0) 1 := so_aload_n E.2.2.1 rfl dX7_acts_72
theorem oo_X7_acts_73 {Γ : jΓ} {Q : jPost} (E : E_X7_acts Γ Q) : jSA Γ Q 73 (o_iload 4) 2 := so_iload E.2.2.1 dX7_acts_73
theorem oo_X7_acts_75 {Γ : jΓ} {Q : jPost} (E : E_X7_acts Γ Q) : jSA Γ Q 75 (o_callV 2 7 T_X7_dy) 3 := so_callV E.2.2.1 (ci := 7) (by rw [E.2.1]; rfl) gX7_acts_X7_dy (by decide +kernel) rfl (by rw [E.2.1]; exact m_X7_dy _) (by decide) (by decide) dX7_acts_75
theorem oo_X7_acts_78 {Γ : jΓ} {Q : jPost} (E : E_X7_acts Γ Q) : jSA Γ Q 78 (o_iadd) 1 := so_iadd E.2.2.1 dX7_acts_78
theorem oo_X7_acts_79 {Γ : jΓ} {Q : jPost} (E : E_X7_acts Γ Q) : jSA Γ Q 79 (o_call 2 T_X7_isCell) 3 := so_callS E.2.2.1 gX7_acts_X7_isCell (by decide +kernel) rfl (by rw [E.2.1]; exact m_X7_isCell _) (by decide) (by decide) dX7_acts_79
theorem oo_X7_acts_82 {Γ : jΓ} {Q : jPost} (E : E_X7_acts Γ Q) : jSA Γ Q 82 (o_ifne 87) 3 := so_ifne E.2.2.1 (by decide) dX7_acts_82
theorem oo_X7_acts_85 {Γ : jΓ} {Q : jPost} (E : E_X7_acts Γ Q) : jSA Γ Q 85 (o_ic (0)) 1 := so_iconst E.2.2.1 rfl dX7_acts_85
theorem oo_X7_acts_86 {Γ : jΓ} {Q : jPost} (E : E_X7_acts Γ Q) : jSA Γ Q 86 (o_iretz) 1 := so_iretz E.2.2.1 E.2.2.2 dX7_acts_86
theorem oo_X7_acts_87 {Γ : jΓ} {Q : jPost} (E : E_X7_acts Γ Q) : jSA Γ Q 87 (o_aload 0) 1 := so_aload_n E.2.2.1 rfl dX7_acts_87
theorem oo_X7_acts_88 {Γ : jΓ} {Q : jPost} (E : E_X7_acts Γ Q) : jSA Γ Q 88 (o_getf 7 13) 3 := so_getf (ci := 7) E.2.2.1 wi_X7_acts_X7 (by rw [E.2.1]; rfl) 13 (by decide) wl_X7_acts_39 dX7_acts_88
theorem oo_X7_acts_91 {Γ : jΓ} {Q : jPost} (E : E_X7_acts Γ Q) : jSA Γ Q 91 (o_iload 1) 1 := so_iload_n E.2.2.1 rfl dX7_acts_91
theorem oo_X7_acts_92 {Γ : jΓ} {Q : jPost} (E : E_X7_acts Γ Q) : jSA Γ Q 92 (o_iload 2) 1 := so_iload_n E.2.2.1 rfl dX7_acts_92
theorem oo_X7_acts_93 {Γ : jΓ} {Q : jPost} (E : E_X7_acts Γ Q) : jSA Γ Q 93 (o_iast) 1 := so_iast E.2.2.1 dX7_acts_93
theorem oo_X7_acts_94 {Γ : jΓ} {Q : jPost} (E : E_X7_acts Γ Q) : jSA Γ Q 94 (o_aload 0) 1 := so_aload_n E.2.2.1 rfl dX7_acts_94
theorem oo_X7_acts_95 {Γ : jΓ} {Q : jPost} (E : E_X7_acts Γ Q) : jSA Γ Q 95 (o_getf 7 11) 3 := so_getf (ci := 7) E.2.2.1 wi_X7_acts_X7 (by rw [E.2.1]; rfl) 11 (by decide) wl_X7_acts_33 dX7_acts_95
theorem oo_X7_acts_98 {Γ : jΓ} {Q : jPost} (E : E_X7_acts Γ Q) : jSA Γ Q 98 (o_iload 1) 1 := so_iload_n E.2.2.1 rfl dX7_acts_98
theorem oo_X7_acts_99 {Γ : jΓ} {Q : jPost} (E : E_X7_acts Γ Q) : jSA Γ Q 99 (o_iload 4) 2 := so_iload E.2.2.1 dX7_acts_99
theorem oo_X7_acts_101 {Γ : jΓ} {Q : jPost} (E : E_X7_acts Γ Q) : jSA Γ Q 101 (o_iast) 1 := so_iast E.2.2.1 dX7_acts_101
theorem oo_X7_acts_102 {Γ : jΓ} {Q : jPost} (E : E_X7_acts Γ Q) : jSA Γ Q 102 (o_aload 0) 1 := so_aload_n E.2.2.1 rfl dX7_acts_102
theorem oo_X7_acts_103 {Γ : jΓ} {Q : jPost} (E : E_X7_acts Γ Q) : jSA Γ Q 103 (o_getf 7 2) 3 := so_getf (ci := 7) E.2.2.1 wi_X7_acts_X7 (by rw [E.2.1]; rfl) 2 (by decide) wl_X7_acts_14 dX7_acts_103
theorem oo_X7_acts_106 {Γ : jΓ} {Q : jPost} (E : E_X7_acts Γ Q) : jSA Γ Q 106 (o_iload 2) 1 := so_iload_n E.2.2.1 rfl dX7_acts_106
theorem oo_X7_acts_107 {Γ : jΓ} {Q : jPost} (E : E_X7_acts Γ Q) : jSA Γ Q 107 (o_iload 3) 1 := so_iload_n E.2.2.1 rfl dX7_acts_107
theorem oo_X7_acts_108 {Γ : jΓ} {Q : jPost} (E : E_X7_acts Γ Q) : jSA Γ Q 108 (o_ic (1)) 1 := so_iconst E.2.2.1 rfl dX7_acts_108
theorem oo_X7_acts_109 {Γ : jΓ} {Q : jPost} (E : E_X7_acts Γ Q) : jSA Γ Q 109 (o_iadd) 1 := so_iadd E.2.2.1 dX7_acts_109
theorem oo_X7_acts_110 {Γ : jΓ} {Q : jPost} (E : E_X7_acts Γ Q) : jSA Γ Q 110 (o_aload 0) 1 := so_aload_n E.2.2.1 rfl dX7_acts_110
theorem oo_X7_acts_111 {Γ : jΓ} {Q : jPost} (E : E_X7_acts Γ Q) : jSA Γ Q 111 (o_getf 7 1) 3 := so_getf (ci := 7) E.2.2.1 wi_X7_acts_X7 (by rw [E.2.1]; rfl) 1 (by decide) wl_X7_acts_84 dX7_acts_111
theorem oo_X7_acts_114 {Γ : jΓ} {Q : jPost} (E : E_X7_acts Γ Q) : jSA Γ Q 114 (o_irem) 1 := so_irem E.2.2.1 dX7_acts_114
theorem oo_X7_acts_115 {Γ : jΓ} {Q : jPost} (E : E_X7_acts Γ Q) : jSA Γ Q 115 (o_iast) 1 := so_iast E.2.2.1 dX7_acts_115
theorem oo_X7_acts_116 {Γ : jΓ} {Q : jPost} (E : E_X7_acts Γ Q) : jSA Γ Q 116 (o_aload 0) 1 := so_aload_n E.2.2.1 rfl dX7_acts_116
theorem oo_X7_acts_117 {Γ : jΓ} {Q : jPost} (E : E_X7_acts Γ Q) : jSA Γ Q 117 (o_getf 7 9) 3 := so_getf (ci := 7) E.2.2.1 wi_X7_acts_X7 (by rw [E.2.1]; rfl) 9 (by decide) wl_X7_acts_27 dX7_acts_117
theorem oo_X7_acts_120 {Γ : jΓ} {Q : jPost} (E : E_X7_acts Γ Q) : jSA Γ Q 120 (o_iload 1) 1 := so_iload_n E.2.2.1 rfl dX7_acts_120
theorem oo_X7_acts_121 {Γ : jΓ} {Q : jPost} (E : E_X7_acts Γ Q) : jSA Γ Q 121 (o_dup2) 1 := so_dup2 E.2.2.1 dX7_acts_121
theorem oo_X7_acts_122 {Γ : jΓ} {Q : jPost} (E : E_X7_acts Γ Q) : jSA Γ Q 122 (o_iald) 1 := so_iald E.2.2.1 dX7_acts_122
theorem oo_X7_acts_123 {Γ : jΓ} {Q : jPost} (E : E_X7_acts Γ Q) : jSA Γ Q 123 (o_aload 0) 1 := so_aload_n E.2.2.1 rfl dX7_acts_123
theorem oo_X7_acts_124 {Γ : jΓ} {Q : jPost} (E : E_X7_acts Γ Q) : jSA Γ Q 124 (o_iload 4) 2 := so_iload E.2.2.1 dX7_acts_124
theorem oo_X7_acts_126 {Γ : jΓ} {Q : jPost} (E : E_X7_acts Γ Q) : jSA Γ Q 126 (o_callV 2 7 T_X7_dx) 3 := so_callV E.2.2.1 (ci := 7) (by rw [E.2.1]; rfl) gX7_acts_X7_dx (by decide +kernel) rfl (by rw [E.2.1]; exact m_X7_dx _) (by decide) (by decide) dX7_acts_126
theorem oo_X7_acts_129 {Γ : jΓ} {Q : jPost} (E : E_X7_acts Γ Q) : jSA Γ Q 129 (o_iadd) 1 := so_iadd E.2.2.1 dX7_acts_129
theorem oo_X7_acts_130 {Γ : jΓ} {Q : jPost} (E : E_X7_acts Γ Q) : jSA Γ Q 130 (o_iast) 1 := so_iast E.2.2.1 dX7_acts_130
theorem oo_X7_acts_131 {Γ : jΓ} {Q : jPost} (E : E_X7_acts Γ Q) : jSA Γ Q 131 (o_aload 0) 1 := so_aload_n E.2.2.1 rfl dX7_acts_131
theorem oo_X7_acts_132 {Γ : jΓ} {Q : jPost} (E : E_X7_acts Γ Q) : jSA Γ Q 132 (o_getf 7 10) 3 := so_getf (ci := 7) E.2.2.1 wi_X7_acts_X7 (by rw [E.2.1]; rfl) 10 (by decide) wl_X7_acts_30 dX7_acts_132
theorem oo_X7_acts_135 {Γ : jΓ} {Q : jPost} (E : E_X7_acts Γ Q) : jSA Γ Q 135 (o_iload 1) 1 := so_iload_n E.2.2.1 rfl dX7_acts_135
theorem oo_X7_acts_136 {Γ : jΓ} {Q : jPost} (E : E_X7_acts Γ Q) : jSA Γ Q 136 (o_dup2) 1 := so_dup2 E.2.2.1 dX7_acts_136
theorem oo_X7_acts_137 {Γ : jΓ} {Q : jPost} (E : E_X7_acts Γ Q) : jSA Γ Q 137 (o_iald) 1 := so_iald E.2.2.1 dX7_acts_137
theorem oo_X7_acts_138 {Γ : jΓ} {Q : jPost} (E : E_X7_acts Γ Q) : jSA Γ Q 138 (o_aload 0) 1 := so_aload_n E.2.2.1 rfl dX7_acts_138
theorem oo_X7_acts_139 {Γ : jΓ} {Q : jPost} (E : E_X7_acts Γ Q) : jSA Γ Q 139 (o_iload 4) 2 := so_iload E.2.2.1 dX7_acts_139
theorem oo_X7_acts_141 {Γ : jΓ} {Q : jPost} (E : E_X7_acts Γ Q) : jSA Γ Q 141 (o_callV 2 7 T_X7_dy) 3 := so_callV E.2.2.1 (ci := 7) (by rw [E.2.1]; rfl) gX7_acts_X7_dy (by decide +kernel) rfl (by rw [E.2.1]; exact m_X7_dy _) (by decide) (by decide) dX7_acts_141
theorem oo_X7_acts_144 {Γ : jΓ} {Q : jPost} (E : E_X7_acts Γ Q) : jSA Γ Q 144 (o_iadd) 1 := so_iadd E.2.2.1 dX7_acts_144
theorem oo_X7_acts_145 {Γ : jΓ} {Q : jPost} (E : E_X7_acts Γ Q) : jSA Γ Q 145 (o_iast) 1 := so_iast E.2.2.1 dX7_acts_145
theorem oo_X7_acts_146 {Γ : jΓ} {Q : jPost} (E : E_X7_acts Γ Q) : jSA Γ Q 146 (o_ic (1)) 1 := so_iconst E.2.2.1 rfl dX7_acts_146
theorem oo_X7_acts_147 {Γ : jΓ} {Q : jPost} (E : E_X7_acts Γ Q) : jSA Γ Q 147 (o_iretz) 1 := so_iretz E.2.2.1 E.2.2.2 dX7_acts_147
theorem ok_X7_acts_0 {Γ : jΓ} {Q : jPost} (E : E_X7_acts Γ Q) : jSS Γ Q 0 sg_X7_acts_0 := ⟨oo_X7_acts_0 E, oo_X7_acts_1 E, oo_X7_acts_4 E, oo_X7_acts_5 E, oo_X7_acts_6 E, oo_X7_acts_7 E, oo_X7_acts_10 E, oo_X7_acts_11 E, oo_X7_acts_12 E, oo_X7_acts_15 E, oo_X7_acts_16 E, oo_X7_acts_17 E, oo_X7_acts_20 E, oo_X7_acts_21 E, oo_X7_acts_22 E, oo_X7_acts_23 E, oo_X7_acts_24 E, oo_X7_acts_27 E, oo_X7_acts_28 E, oo_X7_acts_29 E, oo_X7_acts_30 E, oo_X7_acts_33 E, oo_X7_acts_35 E, oo_X7_acts_36 E, oo_X7_acts_39 E, oo_X7_acts_40 E, oo_X7_acts_41 E, oo_X7_acts_42 E, oo_X7_acts_43 E, oo_X7_acts_44 E, oo_X7_acts_45 E, oo_X7_acts_46 E, oo_X7_acts_47 E, oo_X7_acts_50 E, trivial⟩
theorem ok_X7_acts_51 {Γ : jΓ} {Q : jPost} (E : E_X7_acts Γ Q) : jSS Γ Q 51 sg_X7_acts_51 := ⟨oo_X7_acts_51 E, oo_X7_acts_53 E, oo_X7_acts_54 E, oo_X7_acts_57 E, oo_X7_acts_58 E, oo_X7_acts_59 E, oo_X7_acts_60 E, oo_X7_acts_62 E, oo_X7_acts_65 E, oo_X7_acts_66 E, oo_X7_acts_67 E, oo_X7_acts_70 E, oo_X7_acts_71 E, oo_X7_acts_72 E, oo_X7_acts_73 E, oo_X7_acts_75 E, oo_X7_acts_78 E, oo_X7_acts_79 E, oo_X7_acts_82 E, oo_X7_acts_85 E, oo_X7_acts_86 E, trivial⟩
theorem ok_X7_acts_87 {Γ : jΓ} {Q : jPost} (E : E_X7_acts Γ Q) : jSS Γ Q 87 sg_X7_acts_87 := ⟨oo_X7_acts_87 E, oo_X7_acts_88 E, oo_X7_acts_91 E, oo_X7_acts_92 E, oo_X7_acts_93 E, oo_X7_acts_94 E, oo_X7_acts_95 E, oo_X7_acts_98 E, oo_X7_acts_99 E, oo_X7_acts_101 E, oo_X7_acts_102 E, oo_X7_acts_103 E, oo_X7_acts_106 E, oo_X7_acts_107 E, oo_X7_acts_108 E, oo_X7_acts_109 E, oo_X7_acts_110 E, oo_X7_acts_111 E, oo_X7_acts_114 E, oo_X7_acts_115 E, oo_X7_acts_116 E, oo_X7_acts_117 E, oo_X7_acts_120 E, oo_X7_acts_121 E, oo_X7_acts_122 E, oo_X7_acts_123 E, oo_X7_acts_124 E, oo_X7_acts_126 E, oo_X7_acts_129 E, oo_X7_acts_130 E, oo_X7_acts_131 E, oo_X7_acts_132 E, oo_X7_acts_135 E, oo_X7_acts_136 E, oo_X7_acts_137 E, oo_X7_acts_138 E, oo_X7_acts_139 E, oo_X7_acts_141 E, oo_X7_acts_144 E, oo_X7_acts_145 E, oo_X7_acts_146 E, oo_X7_acts_147 E, trivial⟩
theorem okc_X7_acts {Γ : jΓ} {Q : jPost} (E : E_X7_acts Γ Q) (t : Nat) : jSS Γ Q t (cd_X7_acts t) := by
  unfold cd_X7_acts
  trivial
theorem m_X7_acts_of (l : Launch) (hv : ∀ (G : jGt) (Q : jPost) (vs : List Value) (K : List jK) (h : jM), jHd cd_X7_acts G Q sg_X7_acts_0 0 → jHd cd_X7_acts G Q sg_X7_acts_51 51 → jHd cd_X7_acts G Q sg_X7_acts_87 87 → T_X7_acts vs K h Q → (lg_sl vs).length ≤ 5 ∧ G 0 (jinit vs 5) [] K h 0 0) : jHolds vwCl l yX7_acts wsX7_acts 2 43 0 0 T_X7_acts := by
  refine jMet (cc := cX7_acts) (maxL := 5) (rt := (some .boolean)) (by decide +kernel) rfl (fun Γ Q vs K h hl hn hcl C hR hT => hv (jG Γ) Q vs K h ?_ ?_ ?_ hT)
  · exact fun n L st K h ce sl => jwp_ok (okc_X7_acts ⟨hn, hcl, C, hR⟩) n sg_X7_acts_0 0 (ok_X7_acts_0 ⟨hn, hcl, C, hR⟩) L st K h ce sl
  · exact fun n L st K h ce sl => jwp_ok (okc_X7_acts ⟨hn, hcl, C, hR⟩) n sg_X7_acts_51 51 (ok_X7_acts_51 ⟨hn, hcl, C, hR⟩) L st K h ce sl
  · exact fun n L st K h ce sl => jwp_ok (okc_X7_acts ⟨hn, hcl, C, hR⟩) n sg_X7_acts_87 87 (ok_X7_acts_87 ⟨hn, hcl, C, hR⟩) L st K h ce sl
set_option maxHeartbeats 4000000 in
set_option maxRecDepth 100000 in
theorem v_X7_acts {G : jGt} {Q : jPost} {K : List jK} {h : jM} {a : Int32} (hT : jXM K ∧ (∃ A : Nat, A < 6 ∧ a = nI A ∧ (h 37 0 = 0 ∨ h 37 0 = 1) ∧ aFl (mQ h) (mS h) ∧ aAn (mQ h) (mS h) A ∧ (aOK (mQ h) (mS h) A → Q (some (.int 1)) K (mActM h A)) ∧ (¬ aOK (mQ h) (mS h) A → Q (some (.int 0)) K h))) (H0 : jHd cd_X7_acts G Q sg_X7_acts_0 0) (H51 : jHd cd_X7_acts G Q sg_X7_acts_51 51) (H87 : jHd cd_X7_acts G Q sg_X7_acts_87 87) : G 0 [some (.ref 37), some (.int a), none, none, none] [] K h 0 0 := by
  obtain ⟨hM, A, hA, rfl, hk, hf, ha, hT1, hT0⟩ := hT
  have A31 : A < 2147483648 := by omega
  have hv : vp_in (nI A) 6 := vp_in_nI hA (by decide)
  have x0 : (mS h).2.1 A = h 42 A := cut6_at _ hA
  have y0 : (mS h).2.2.1 A = h 43 A := cut6_at _ hA
  have d0 : (mS h).2.2.2 A = h 44 A := cut6_at _ hA
  have r0 : (mQ h).2.2.2 A = h 45 A := cut6_at _ hA
  have hon := ha.1
  rw [x0, y0] at hon
  have hP : jpl (h 42 A) (h 43 A) = nI (aP (mS h) A) := by
    unfold aP
    rw [x0, y0, nI_clampI (vp_in_iff.mp (jpl_in hon)).1]
  have hP57 := aP_lt ha
  have hPv : vp_in (nI (aP (mS h) A)) 57600 := vp_in_nI hP57 (by decide)
  have P31 : aP (mS h) A < 2147483648 := by omega
  have hC : h 38 (aP (mS h) A) = aC (mS h) A := rfl
  have hc := aC_in hf ha
  have hn := hf.1
  have n1 : (mQ h).2.1 = h 37 1 := rfl
  rw [n1] at hc hn
  obtain ⟨c, hc12, ec⟩ := jnat (x := aC (mS h) A) (N := 12) (by omega) (by omega)
  have c31 : c < 2147483648 := by omega
  have hc' : c < 12 := by
    rw [ec, nI_toInt c31] at hc
    omega
  have hr := ha.2.2
  rw [r0] at hr
  obtain ⟨r, hr4, er⟩ := vp_in_of hr (by decide)
  have r31 : r < 2147483648 := by omega
  have eix : (12 : Int32) * nI r + nI c = nI (12 * r + c) := by rw [show (12 : Int32) = nI 12 from rfl, nI_mul, nI_add]
  have hixv : vp_in (nI (12 * r + c)) 48 := vp_in_nI (by omega) (by decide)
  have ix31 : 12 * r + c < 2147483648 := by omega
  have eT : (mQ h).2.2.1 (h 45 A).toNatClampNeg (aC (mS h) A).toNatClampNeg = h 40 (12 * r + c) := by
    have e := m_T (h := h) (r := h 45 A) (c := aC (mS h) A) hr hc
    rw [e, er, nI_clamp r31, ec, nI_clamp c31]
  have hD := jdM_D hk
  have hDle := aDn_le (h 37 0)
  have htin := aT_in hf ha
  rw [r0, eT] at htin
  have hdin := ha.2.1
  rw [d0] at hdin
  have eDr : h 44 A + h 40 (12 * r + c) - (h 44 A + h 40 (12 * r + c)) / nI (aDn (h 37 0)) * nI (aDn (h 37 0)) = aDr (mQ h) (mS h) A := by
    rw [rem_turn (by omega) hDle.2 hdin htin]
    unfold aDr
    rw [d0, r0, eT]; rfl
  have hDrin := aDr_in hf ha
  have Dne : ¬ nI (aDn (h 37 0)) = 0 := by rw [show (0 : Int32) = nI 0 from rfl, nI_eq (by omega) (by decide)]; omega
  refine H0 60 _ _ _ _ _ _ ?_
  simp only [sg_X7_acts_0, sg_X7_acts_51, sg_X7_acts_87, cd_X7_acts, jwp, o_ic, o_lc, o_iload, o_lload, o_aload, o_istore, o_lstore, o_astore, o_iinc, o_pop, o_dup, o_dup2, o_iadd, o_isub, o_imul, o_iand, o_ior, o_ishl, o_ladd, o_lmul, o_land, o_lor, o_idiv, o_irem, o_ineg, o_i2l, o_l2i, o_i2b, o_i2s, o_lushr, o_lshr, o_lshl, o_lcmp, o_ifeq, o_ifne, o_iflt, o_ifge, o_ifgt, o_ifle, o_iceq, o_icne, o_iclt, o_icge, o_icgt, o_icle, o_goto, o_tsw, jsw, o_lsw, jlk, o_getf, o_putf, o_putz, o_iald, o_zald, o_iast, o_zast, o_aald, o_alen, o_gets, o_zld, o_zlen, o_cpy, o_call, o_callV, o_ireti, o_iretz, o_lret, o_vret, jg, js, jkp, jkill, jsp, jcs, jfw, jov, Value.category, Option.toList_some, Option.toList_none, List.nil_append, List.cons_append, List.append_nil, Nat.reduceAdd, true_and, and_true, jb0, jb01, jb1, jem, true_or, or_true, Classical.not_not, forall_const, List.length_cons, List.length_nil, Nat.reduceLeDiff, Nat.zero_le, Nat.reduceLT, and_self, not_true_eq_false, not_false_eq_true, false_imp_iff, true_imp_iff, implies_true, and_false, false_and, or_false, false_or, hM, km_37_0 hM, km_37_1 hM, km_37_2 hM, km_37_3 hM, km_37_4 hM, km_37_5 hM, km_37_6 hM, km_37_7 hM, km_37_8 hM, km_37_9 hM, km_37_10 hM, km_37_11 hM, km_37_12 hM, km_37_13 hM, km_37_14 hM, km_37_15 hM, km_37_16 hM, km_37_17 hM, km_37_18 hM, km_37_19 hM, km_37_20 hM, km_37_21 hM, km_37_22 hM, km_37_23 hM, km_37_24 hM, km_37_25 hM, km_37_26 hM, km_37_27 hM, km_37_28 hM, km_37_29 hM, km_37_30 hM, km_37_31 hM, km_37_32 hM, kmo_37 hM, kma_38 hM, kma_39 hM, kma_40 hM, kma_41 hM, kma_42 hM, kma_43 hM, kma_44 hM, kma_45 hM, kma_46 hM, kma_47 hM, kma_48 hM, kma_49 hM, kma_50 hM, kma_52 hM, kma_53 hM, kma_54 hM, kma_55 hM, kma_56 hM, kma_51 hM, hv, nI_clamp A31, T_X7_cell, hon, hP, hPv, nI_clamp P31, hC, ec, er, eix, hixv, nI_clamp ix31, T_X7_directions, hD, Dne]
  rw [eDr]
  have eX : h 42 A + mdx (h 37 0) (aDr (mQ h) (mS h) A) = aXn (mQ h) (mS h) A := by
    rw [(dx_eq hk hDrin).1]; unfold aXn; rw [x0]; rfl
  have eY : h 43 A + mdy (h 37 0) (aDr (mQ h) (mS h) A) = aYn (mQ h) (mS h) A := by
    rw [(dx_eq hk hDrin).2]; unfold aYn; rw [y0]; rfl
  have eN : nI c + 1 - (nI c + 1) / h 37 1 * h 37 1 = if aC (mS h) A + 1 < h 37 1 then aC (mS h) A + 1 else 0 := by
    rw [← ec]; exact rem_col hn hc
  have nne : ¬ h 37 1 = 0 := fun z => by rw [z] at hn; exact absurd hn.1 (by decide)
  unfold aOK at hT0 hT1
  unfold mActM at hT1
  generalize aDr (mQ h) (mS h) A = D at eX eY hT1 hT0 ⊢
  refine H51 60 _ _ _ _ _ _ ?_
  simp only [sg_X7_acts_0, sg_X7_acts_51, sg_X7_acts_87, cd_X7_acts, jwp, o_ic, o_lc, o_iload, o_lload, o_aload, o_istore, o_lstore, o_astore, o_iinc, o_pop, o_dup, o_dup2, o_iadd, o_isub, o_imul, o_iand, o_ior, o_ishl, o_ladd, o_lmul, o_land, o_lor, o_idiv, o_irem, o_ineg, o_i2l, o_l2i, o_i2b, o_i2s, o_lushr, o_lshr, o_lshl, o_lcmp, o_ifeq, o_ifne, o_iflt, o_ifge, o_ifgt, o_ifle, o_iceq, o_icne, o_iclt, o_icge, o_icgt, o_icle, o_goto, o_tsw, jsw, o_lsw, jlk, o_getf, o_putf, o_putz, o_iald, o_zald, o_iast, o_zast, o_aald, o_alen, o_gets, o_zld, o_zlen, o_cpy, o_call, o_callV, o_ireti, o_iretz, o_lret, o_vret, jg, js, jkp, jkill, jsp, jcs, jfw, jov, Value.category, Option.toList_some, Option.toList_none, List.nil_append, List.cons_append, List.append_nil, Nat.reduceAdd, true_and, and_true, jb0, jb01, jb1, jem, true_or, or_true, Classical.not_not, forall_const, List.length_cons, List.length_nil, Nat.reduceLeDiff, Nat.zero_le, Nat.reduceLT, and_self, not_true_eq_false, not_false_eq_true, false_imp_iff, true_imp_iff, implies_true, and_false, false_and, or_false, false_or, hM, km_37_0 hM, km_37_1 hM, km_37_2 hM, km_37_3 hM, km_37_4 hM, km_37_5 hM, km_37_6 hM, km_37_7 hM, km_37_8 hM, km_37_9 hM, km_37_10 hM, km_37_11 hM, km_37_12 hM, km_37_13 hM, km_37_14 hM, km_37_15 hM, km_37_16 hM, km_37_17 hM, km_37_18 hM, km_37_19 hM, km_37_20 hM, km_37_21 hM, km_37_22 hM, km_37_23 hM, km_37_24 hM, km_37_25 hM, km_37_26 hM, km_37_27 hM, km_37_28 hM, km_37_29 hM, km_37_30 hM, km_37_31 hM, km_37_32 hM, kmo_37 hM, kma_38 hM, kma_39 hM, kma_40 hM, kma_41 hM, kma_42 hM, kma_43 hM, kma_44 hM, kma_45 hM, kma_46 hM, kma_47 hM, kma_48 hM, kma_49 hM, kma_50 hM, kma_52 hM, kma_53 hM, kma_54 hM, kma_55 hM, kma_56 hM, kma_51 hM, hv, nI_clamp A31, T_X7_dx, T_X7_dy, T_X7_isCell, eX, eY]
  refine ⟨fun q => ?_, fun q => hT0 q⟩
  have hT1 := hT1 q
  refine H87 80 _ _ _ _ _ _ ?_
  simp only [sg_X7_acts_0, sg_X7_acts_51, sg_X7_acts_87, cd_X7_acts, jwp, o_ic, o_lc, o_iload, o_lload, o_aload, o_istore, o_lstore, o_astore, o_iinc, o_pop, o_dup, o_dup2, o_iadd, o_isub, o_imul, o_iand, o_ior, o_ishl, o_ladd, o_lmul, o_land, o_lor, o_idiv, o_irem, o_ineg, o_i2l, o_l2i, o_i2b, o_i2s, o_lushr, o_lshr, o_lshl, o_lcmp, o_ifeq, o_ifne, o_iflt, o_ifge, o_ifgt, o_ifle, o_iceq, o_icne, o_iclt, o_icge, o_icgt, o_icle, o_goto, o_tsw, jsw, o_lsw, jlk, o_getf, o_putf, o_putz, o_iald, o_zald, o_iast, o_zast, o_aald, o_alen, o_gets, o_zld, o_zlen, o_cpy, o_call, o_callV, o_ireti, o_iretz, o_lret, o_vret, jg, js, jkp, jkill, jsp, jcs, jfw, jov, Value.category, Option.toList_some, Option.toList_none, List.nil_append, List.cons_append, List.append_nil, Nat.reduceAdd, true_and, and_true, jb0, jb01, jb1, jem, true_or, or_true, Classical.not_not, forall_const, List.length_cons, List.length_nil, Nat.reduceLeDiff, Nat.zero_le, Nat.reduceLT, and_self, not_true_eq_false, not_false_eq_true, false_imp_iff, true_imp_iff, implies_true, and_false, false_and, or_false, false_or, hM, km_37_0 hM, km_37_1 hM, km_37_2 hM, km_37_3 hM, km_37_4 hM, km_37_5 hM, km_37_6 hM, km_37_7 hM, km_37_8 hM, km_37_9 hM, km_37_10 hM, km_37_11 hM, km_37_12 hM, km_37_13 hM, km_37_14 hM, km_37_15 hM, km_37_16 hM, km_37_17 hM, km_37_18 hM, km_37_19 hM, km_37_20 hM, km_37_21 hM, km_37_22 hM, km_37_23 hM, km_37_24 hM, km_37_25 hM, km_37_26 hM, km_37_27 hM, km_37_28 hM, km_37_29 hM, km_37_30 hM, km_37_31 hM, km_37_32 hM, kmo_37 hM, kma_38 hM, kma_39 hM, kma_40 hM, kma_41 hM, kma_42 hM, kma_43 hM, kma_44 hM, kma_45 hM, kma_46 hM, kma_47 hM, kma_48 hM, kma_49 hM, kma_50 hM, kma_52 hM, kma_53 hM, kma_54 hM, kma_55 hM, kma_56 hM, kma_51 hM, hv, nI_clamp A31, hPv, nI_clamp P31, T_X7_dx, T_X7_dy, nne, up2_n (show ¬ 37 = 46 by decide), up2_n (show ¬ 37 = 44 by decide), up2_n (show ¬ 37 = 38 by decide), up2_n (show ¬ 37 = 42 by decide), up2_n (show ¬ 42 = 46 by decide), up2_n (show ¬ 42 = 44 by decide), up2_n (show ¬ 42 = 38 by decide), up2_n (show ¬ 43 = 46 by decide), up2_n (show ¬ 43 = 44 by decide), up2_n (show ¬ 43 = 38 by decide), up2_n (show ¬ 43 = 42 by decide), eX, eY, eN]
  exact hT1
theorem m_X7_acts (l : Launch) : jHolds vwCl l yX7_acts wsX7_acts 2 43 0 0 T_X7_acts := by
  refine m_X7_acts_of l (fun G Q vs K h H0 H51 H87 hT => ?_)
  unfold T_X7_acts at hT
  split at hT
  · obtain ⟨rfl, hT⟩ := hT
    exact ⟨Nat.le_of_ble_eq_true rfl, v_X7_acts hT H0 H51 H87⟩
  · exact hT.elim

/-! X7_actsBack -/
def T_X7_actsBack : jT := fun vs K h Q => match vs with
  | [.ref r0, .int a] => r0 = 37 ∧ (jXM K ∧ (∃ A : Nat, A < 6 ∧ a = nI A ∧ (h 37 0 = 0 ∨ h 37 0 = 1) ∧ aFl (mQ h) (mS h) ∧ aAn (mQ h) (mS h) A ∧ (aBOK (mQ h) (mS h) A → Q (some (.int 1)) K (mBackM h A)) ∧ (¬ aBOK (mQ h) (mS h) A → Q (some (.int 0)) K h)))
  | _ => False
def sg_X7_actsBack_0 : jS := [(o_aload 0, 1), (o_getf 7 11, 3), (o_iload 1, 1), (o_iald, 1), (o_istore 2, 1), (o_aload 0, 1), (o_getf 7 9, 3), (o_iload 1, 1), (o_iald, 1), (o_aload 0, 1), (o_iload 2, 1), (o_callV 2 7 T_X7_dx, 3), (o_isub, 1), (o_istore 3, 1), (o_aload 0, 1), (o_getf 7 10, 3), (o_iload 1, 1), (o_iald, 1), (o_aload 0, 1), (o_iload 2, 1), (o_callV 2 7 T_X7_dy, 3), (o_isub, 1), (o_istore 4, 2)]
def sg_X7_actsBack_34 : jS := [(o_iload 3, 1), (o_iload 4, 2), (o_call 2 T_X7_isCell, 3), (o_ifne 45, 3), (o_ic (0), 1), (o_iretz, 1)]
def sg_X7_actsBack_45 : jS := [(o_iload 3, 1), (o_iload 4, 2), (o_call 2 T_X7_cell, 3), (o_istore 5, 2), (o_aload 0, 1), (o_getf 7 2, 3), (o_iload 5, 2), (o_iald, 1), (o_aload 0, 1), (o_getf 7 1, 3), (o_iadd, 1), (o_ic (1), 1), (o_isub, 1), (o_aload 0, 1), (o_getf 7 1, 3), (o_irem, 1), (o_istore 6, 2)]
def sg_X7_actsBack_74 : jS := [(o_aload 0, 1), (o_getf 7 13, 3), (o_iload 1, 1), (o_iload 5, 2), (o_iast, 1), (o_aload 0, 1), (o_getf 7 2, 3), (o_iload 5, 2), (o_iload 6, 2), (o_iast, 1), (o_aload 0, 1), (o_getf 7 9, 3), (o_iload 1, 1), (o_iload 3, 1), (o_iast, 1), (o_aload 0, 1), (o_getf 7 10, 3), (o_iload 1, 1), (o_iload 4, 2), (o_iast, 1), (o_aload 0, 1), (o_getf 7 11, 3), (o_iload 1, 1), (o_iload 2, 1), (o_aload 0, 1), (o_callV 1 7 T_X7_directions, 3), (o_iadd, 1), (o_aload 0, 1), (o_getf 7 5, 3), (o_ic (12), 2), (o_aload 0, 1), (o_getf 7 12, 3), (o_iload 1, 1), (o_iald, 1), (o_imul, 1), (o_iload 6, 2), (o_iadd, 1), (o_iald, 1), (o_isub, 1), (o_aload 0, 1), (o_callV 1 7 T_X7_directions, 3), (o_irem, 1), (o_iast, 1), (o_ic (1), 1), (o_iretz, 1)]
def cd_X7_actsBack : Nat → jS := fun t => match t with
  | _ => []
theorem wl_X7_actsBack_14 : Cond.fieldLink RX7 14 (TX7 2).1 (TX7 2).2.1 (TX7 2).2.2.1 ∈ wsX7_actsBack := by decide +kernel
theorem wl_X7_actsBack_21 : Cond.fieldLink RX7 21 (TX7 5).1 (TX7 5).2.1 (TX7 5).2.2.1 ∈ wsX7_actsBack := by decide +kernel
theorem wl_X7_actsBack_27 : Cond.fieldLink RX7 27 (TX7 9).1 (TX7 9).2.1 (TX7 9).2.2.1 ∈ wsX7_actsBack := by decide +kernel
theorem wl_X7_actsBack_30 : Cond.fieldLink RX7 30 (TX7 10).1 (TX7 10).2.1 (TX7 10).2.2.1 ∈ wsX7_actsBack := by decide +kernel
theorem wl_X7_actsBack_33 : Cond.fieldLink RX7 33 (TX7 11).1 (TX7 11).2.1 (TX7 11).2.2.1 ∈ wsX7_actsBack := by decide +kernel
theorem wl_X7_actsBack_36 : Cond.fieldLink RX7 36 (TX7 12).1 (TX7 12).2.1 (TX7 12).2.2.1 ∈ wsX7_actsBack := by decide +kernel
theorem wl_X7_actsBack_39 : Cond.fieldLink RX7 39 (TX7 13).1 (TX7 13).2.1 (TX7 13).2.2.1 ∈ wsX7_actsBack := by decide +kernel
theorem wl_X7_actsBack_84 : Cond.fieldLink RX7 84 (TX7 1).1 (TX7 1).2.1 (TX7 1).2.2.1 ∈ wsX7_actsBack := by decide +kernel
theorem wi_X7_actsBack_X7 : ∀ w ∈ u_ws RX7 TX7 33, w ∈ wsX7_actsBack := by decide +kernel
def E_X7_actsBack (Γ : jΓ) (Q : jPost) : Prop := Γ.2.2.2.2.2.2.2.2.2.2.1 = 7 ∧ Γ.2.2.2.2.2.2.2.2.2.2.2.1 = vwCl ∧ jC Γ cX7_actsBack RX7 "actsBack" (some .boolean) wsX7_actsBack 2 43 0 0 ∧ jR Γ Q 0 0
theorem oo_X7_actsBack_0 {Γ : jΓ} {Q : jPost} (E : E_X7_actsBack Γ Q) : jSA Γ Q 0 (o_aload 0) 1 := so_aload_n E.2.2.1 rfl dX7_actsBack_0
theorem oo_X7_actsBack_1 {Γ : jΓ} {Q : jPost} (E : E_X7_actsBack Γ Q) : jSA Γ Q 1 (o_getf 7 11) 3 := so_getf (ci := 7) E.2.2.1 wi_X7_actsBack_X7 (by rw [E.2.1]; rfl) 11 (by decide) wl_X7_actsBack_33 dX7_actsBack_1
theorem oo_X7_actsBack_4 {Γ : jΓ} {Q : jPost} (E : E_X7_actsBack Γ Q) : jSA Γ Q 4 (o_iload 1) 1 := so_iload_n E.2.2.1 rfl dX7_actsBack_4
theorem oo_X7_actsBack_5 {Γ : jΓ} {Q : jPost} (E : E_X7_actsBack Γ Q) : jSA Γ Q 5 (o_iald) 1 := so_iald E.2.2.1 dX7_actsBack_5
theorem oo_X7_actsBack_6 {Γ : jΓ} {Q : jPost} (E : E_X7_actsBack Γ Q) : jSA Γ Q 6 (o_istore 2) 1 := so_istore_n E.2.2.1 rfl (by rw [E.1]; decide) dX7_actsBack_6
theorem oo_X7_actsBack_7 {Γ : jΓ} {Q : jPost} (E : E_X7_actsBack Γ Q) : jSA Γ Q 7 (o_aload 0) 1 := so_aload_n E.2.2.1 rfl dX7_actsBack_7
theorem oo_X7_actsBack_8 {Γ : jΓ} {Q : jPost} (E : E_X7_actsBack Γ Q) : jSA Γ Q 8 (o_getf 7 9) 3 := so_getf (ci := 7) E.2.2.1 wi_X7_actsBack_X7 (by rw [E.2.1]; rfl) 9 (by decide) wl_X7_actsBack_27 dX7_actsBack_8
theorem oo_X7_actsBack_11 {Γ : jΓ} {Q : jPost} (E : E_X7_actsBack Γ Q) : jSA Γ Q 11 (o_iload 1) 1 := so_iload_n E.2.2.1 rfl dX7_actsBack_11
theorem oo_X7_actsBack_12 {Γ : jΓ} {Q : jPost} (E : E_X7_actsBack Γ Q) : jSA Γ Q 12 (o_iald) 1 := so_iald E.2.2.1 dX7_actsBack_12
theorem oo_X7_actsBack_13 {Γ : jΓ} {Q : jPost} (E : E_X7_actsBack Γ Q) : jSA Γ Q 13 (o_aload 0) 1 := so_aload_n E.2.2.1 rfl dX7_actsBack_13
theorem oo_X7_actsBack_14 {Γ : jΓ} {Q : jPost} (E : E_X7_actsBack Γ Q) : jSA Γ Q 14 (o_iload 2) 1 := so_iload_n E.2.2.1 rfl dX7_actsBack_14
theorem oo_X7_actsBack_15 {Γ : jΓ} {Q : jPost} (E : E_X7_actsBack Γ Q) : jSA Γ Q 15 (o_callV 2 7 T_X7_dx) 3 := so_callV E.2.2.1 (ci := 7) (by rw [E.2.1]; rfl) gX7_actsBack_X7_dx (by decide +kernel) rfl (by rw [E.2.1]; exact m_X7_dx _) (by decide) (by decide) dX7_actsBack_15
theorem oo_X7_actsBack_18 {Γ : jΓ} {Q : jPost} (E : E_X7_actsBack Γ Q) : jSA Γ Q 18 (o_isub) 1 := so_isub E.2.2.1 dX7_actsBack_18
theorem oo_X7_actsBack_19 {Γ : jΓ} {Q : jPost} (E : E_X7_actsBack Γ Q) : jSA Γ Q 19 (o_istore 3) 1 := so_istore_n E.2.2.1 rfl (by rw [E.1]; decide) dX7_actsBack_19
theorem oo_X7_actsBack_20 {Γ : jΓ} {Q : jPost} (E : E_X7_actsBack Γ Q) : jSA Γ Q 20 (o_aload 0) 1 := so_aload_n E.2.2.1 rfl dX7_actsBack_20
theorem oo_X7_actsBack_21 {Γ : jΓ} {Q : jPost} (E : E_X7_actsBack Γ Q) : jSA Γ Q 21 (o_getf 7 10) 3 := so_getf (ci := 7) E.2.2.1 wi_X7_actsBack_X7 (by rw [E.2.1]; rfl) 10 (by decide) wl_X7_actsBack_30 dX7_actsBack_21
theorem oo_X7_actsBack_24 {Γ : jΓ} {Q : jPost} (E : E_X7_actsBack Γ Q) : jSA Γ Q 24 (o_iload 1) 1 := so_iload_n E.2.2.1 rfl dX7_actsBack_24
theorem oo_X7_actsBack_25 {Γ : jΓ} {Q : jPost} (E : E_X7_actsBack Γ Q) : jSA Γ Q 25 (o_iald) 1 := so_iald E.2.2.1 dX7_actsBack_25
theorem oo_X7_actsBack_26 {Γ : jΓ} {Q : jPost} (E : E_X7_actsBack Γ Q) : jSA Γ Q 26 (o_aload 0) 1 := so_aload_n E.2.2.1 rfl dX7_actsBack_26
theorem oo_X7_actsBack_27 {Γ : jΓ} {Q : jPost} (E : E_X7_actsBack Γ Q) : jSA Γ Q 27 (o_iload 2) 1 := so_iload_n E.2.2.1 rfl dX7_actsBack_27
theorem oo_X7_actsBack_28 {Γ : jΓ} {Q : jPost} (E : E_X7_actsBack Γ Q) : jSA Γ Q 28 (o_callV 2 7 T_X7_dy) 3 := so_callV E.2.2.1 (ci := 7) (by rw [E.2.1]; rfl) gX7_actsBack_X7_dy (by decide +kernel) rfl (by rw [E.2.1]; exact m_X7_dy _) (by decide) (by decide) dX7_actsBack_28
theorem oo_X7_actsBack_31 {Γ : jΓ} {Q : jPost} (E : E_X7_actsBack Γ Q) : jSA Γ Q 31 (o_isub) 1 := so_isub E.2.2.1 dX7_actsBack_31
theorem oo_X7_actsBack_32 {Γ : jΓ} {Q : jPost} (E : E_X7_actsBack Γ Q) : jSA Γ Q 32 (o_istore 4) 2 := so_istore E.2.2.1 (by rw [E.1]; decide) dX7_actsBack_32
theorem oo_X7_actsBack_34 {Γ : jΓ} {Q : jPost} (E : E_X7_actsBack Γ Q) : jSA Γ Q 34 (o_iload 3) 1 := so_iload_n E.2.2.1 rfl dX7_actsBack_34
theorem oo_X7_actsBack_35 {Γ : jΓ} {Q : jPost} (E : E_X7_actsBack Γ Q) : jSA Γ Q 35 (o_iload 4) 2 := so_iload E.2.2.1 dX7_actsBack_35
theorem oo_X7_actsBack_37 {Γ : jΓ} {Q : jPost} (E : E_X7_actsBack Γ Q) : jSA Γ Q 37 (o_call 2 T_X7_isCell) 3 := so_callS E.2.2.1 gX7_actsBack_X7_isCell (by decide +kernel) rfl (by rw [E.2.1]; exact m_X7_isCell _) (by decide) (by decide) dX7_actsBack_37
theorem oo_X7_actsBack_40 {Γ : jΓ} {Q : jPost} (E : E_X7_actsBack Γ Q) : jSA Γ Q 40 (o_ifne 45) 3 := so_ifne E.2.2.1 (by decide) dX7_actsBack_40
theorem oo_X7_actsBack_43 {Γ : jΓ} {Q : jPost} (E : E_X7_actsBack Γ Q) : jSA Γ Q 43 (o_ic (0)) 1 := so_iconst E.2.2.1 rfl dX7_actsBack_43
theorem oo_X7_actsBack_44 {Γ : jΓ} {Q : jPost} (E : E_X7_actsBack Γ Q) : jSA Γ Q 44 (o_iretz) 1 := so_iretz E.2.2.1 E.2.2.2 dX7_actsBack_44
theorem oo_X7_actsBack_45 {Γ : jΓ} {Q : jPost} (E : E_X7_actsBack Γ Q) : jSA Γ Q 45 (o_iload 3) 1 := so_iload_n E.2.2.1 rfl dX7_actsBack_45
theorem oo_X7_actsBack_46 {Γ : jΓ} {Q : jPost} (E : E_X7_actsBack Γ Q) : jSA Γ Q 46 (o_iload 4) 2 := so_iload E.2.2.1 dX7_actsBack_46
theorem oo_X7_actsBack_48 {Γ : jΓ} {Q : jPost} (E : E_X7_actsBack Γ Q) : jSA Γ Q 48 (o_call 2 T_X7_cell) 3 := so_callS E.2.2.1 gX7_actsBack_X7_cell (by decide +kernel) rfl (by rw [E.2.1]; exact m_X7_cell _) (by decide) (by decide) dX7_actsBack_48
theorem oo_X7_actsBack_51 {Γ : jΓ} {Q : jPost} (E : E_X7_actsBack Γ Q) : jSA Γ Q 51 (o_istore 5) 2 := so_istore E.2.2.1 (by rw [E.1]; decide) dX7_actsBack_51
theorem oo_X7_actsBack_53 {Γ : jΓ} {Q : jPost} (E : E_X7_actsBack Γ Q) : jSA Γ Q 53 (o_aload 0) 1 := so_aload_n E.2.2.1 rfl dX7_actsBack_53
theorem oo_X7_actsBack_54 {Γ : jΓ} {Q : jPost} (E : E_X7_actsBack Γ Q) : jSA Γ Q 54 (o_getf 7 2) 3 := so_getf (ci := 7) E.2.2.1 wi_X7_actsBack_X7 (by rw [E.2.1]; rfl) 2 (by decide) wl_X7_actsBack_14 dX7_actsBack_54
theorem oo_X7_actsBack_57 {Γ : jΓ} {Q : jPost} (E : E_X7_actsBack Γ Q) : jSA Γ Q 57 (o_iload 5) 2 := so_iload E.2.2.1 dX7_actsBack_57
theorem oo_X7_actsBack_59 {Γ : jΓ} {Q : jPost} (E : E_X7_actsBack Γ Q) : jSA Γ Q 59 (o_iald) 1 := so_iald E.2.2.1 dX7_actsBack_59
theorem oo_X7_actsBack_60 {Γ : jΓ} {Q : jPost} (E : E_X7_actsBack Γ Q) : jSA Γ Q 60 (o_aload 0) 1 := so_aload_n E.2.2.1 rfl dX7_actsBack_60
theorem oo_X7_actsBack_61 {Γ : jΓ} {Q : jPost} (E : E_X7_actsBack Γ Q) : jSA Γ Q 61 (o_getf 7 1) 3 := so_getf (ci := 7) E.2.2.1 wi_X7_actsBack_X7 (by rw [E.2.1]; rfl) 1 (by decide) wl_X7_actsBack_84 dX7_actsBack_61
theorem oo_X7_actsBack_64 {Γ : jΓ} {Q : jPost} (E : E_X7_actsBack Γ Q) : jSA Γ Q 64 (o_iadd) 1 := so_iadd E.2.2.1 dX7_actsBack_64
theorem oo_X7_actsBack_65 {Γ : jΓ} {Q : jPost} (E : E_X7_actsBack Γ Q) : jSA Γ Q 65 (o_ic (1)) 1 := so_iconst E.2.2.1 rfl dX7_actsBack_65
theorem oo_X7_actsBack_66 {Γ : jΓ} {Q : jPost} (E : E_X7_actsBack Γ Q) : jSA Γ Q 66 (o_isub) 1 := so_isub E.2.2.1 dX7_actsBack_66
theorem oo_X7_actsBack_67 {Γ : jΓ} {Q : jPost} (E : E_X7_actsBack Γ Q) : jSA Γ Q 67 (o_aload 0) 1 := so_aload_n E.2.2.1 rfl dX7_actsBack_67
theorem oo_X7_actsBack_68 {Γ : jΓ} {Q : jPost} (E : E_X7_actsBack Γ Q) : jSA Γ Q 68 (o_getf 7 1) 3 := so_getf (ci := 7) E.2.2.1 wi_X7_actsBack_X7 (by rw [E.2.1]; rfl) 1 (by decide) wl_X7_actsBack_84 dX7_actsBack_68
theorem oo_X7_actsBack_71 {Γ : jΓ} {Q : jPost} (E : E_X7_actsBack Γ Q) : jSA Γ Q 71 (o_irem) 1 := so_irem E.2.2.1 dX7_actsBack_71
theorem oo_X7_actsBack_72 {Γ : jΓ} {Q : jPost} (E : E_X7_actsBack Γ Q) : jSA Γ Q 72 (o_istore 6) 2 := so_istore E.2.2.1 (by rw [E.1]; decide) dX7_actsBack_72
theorem oo_X7_actsBack_74 {Γ : jΓ} {Q : jPost} (E : E_X7_actsBack Γ Q) : jSA Γ Q 74 (o_aload 0) 1 := so_aload_n E.2.2.1 rfl dX7_actsBack_74
theorem oo_X7_actsBack_75 {Γ : jΓ} {Q : jPost} (E : E_X7_actsBack Γ Q) : jSA Γ Q 75 (o_getf 7 13) 3 := so_getf (ci := 7) E.2.2.1 wi_X7_actsBack_X7 (by rw [E.2.1]; rfl) 13 (by decide) wl_X7_actsBack_39 dX7_actsBack_75
theorem oo_X7_actsBack_78 {Γ : jΓ} {Q : jPost} (E : E_X7_actsBack Γ Q) : jSA Γ Q 78 (o_iload 1) 1 := so_iload_n E.2.2.1 rfl dX7_actsBack_78
theorem oo_X7_actsBack_79 {Γ : jΓ} {Q : jPost} (E : E_X7_actsBack Γ Q) : jSA Γ Q 79 (o_iload 5) 2 := so_iload E.2.2.1 dX7_actsBack_79
theorem oo_X7_actsBack_81 {Γ : jΓ} {Q : jPost} (E : E_X7_actsBack Γ Q) : jSA Γ Q 81 (o_iast) 1 := so_iast E.2.2.1 dX7_actsBack_81
theorem oo_X7_actsBack_82 {Γ : jΓ} {Q : jPost} (E : E_X7_actsBack Γ Q) : jSA Γ Q 82 (o_aload 0) 1 := so_aload_n E.2.2.1 rfl dX7_actsBack_82
theorem oo_X7_actsBack_83 {Γ : jΓ} {Q : jPost} (E : E_X7_actsBack Γ Q) : jSA Γ Q 83 (o_getf 7 2) 3 := so_getf (ci := 7) E.2.2.1 wi_X7_actsBack_X7 (by rw [E.2.1]; rfl) 2 (by decide) wl_X7_actsBack_14 dX7_actsBack_83
theorem oo_X7_actsBack_86 {Γ : jΓ} {Q : jPost} (E : E_X7_actsBack Γ Q) : jSA Γ Q 86 (o_iload 5) 2 := so_iload E.2.2.1 dX7_actsBack_86
theorem oo_X7_actsBack_88 {Γ : jΓ} {Q : jPost} (E : E_X7_actsBack Γ Q) : jSA Γ Q 88 (o_iload 6) 2 := so_iload E.2.2.1 dX7_actsBack_88
theorem oo_X7_actsBack_90 {Γ : jΓ} {Q : jPost} (E : E_X7_actsBack Γ Q) : jSA Γ Q 90 (o_iast) 1 := so_iast E.2.2.1 dX7_actsBack_90
theorem oo_X7_actsBack_91 {Γ : jΓ} {Q : jPost} (E : E_X7_actsBack Γ Q) : jSA Γ Q 91 (o_aload 0) 1 := so_aload_n E.2.2.1 rfl dX7_actsBack_91
theorem oo_X7_actsBack_92 {Γ : jΓ} {Q : jPost} (E : E_X7_actsBack Γ Q) : jSA Γ Q 92 (o_getf 7 9) 3 := so_getf (ci := 7) E.2.2.1 wi_X7_actsBack_X7 (by rw [E.2.1]; rfl) 9 (by decide) wl_X7_actsBack_27 dX7_actsBack_92
theorem oo_X7_actsBack_95 {Γ : jΓ} {Q : jPost} (E : E_X7_actsBack Γ Q) : jSA Γ Q 95 (o_iload 1) 1 := so_iload_n E.2.2.1 rfl dX7_actsBack_95
theorem oo_X7_actsBack_96 {Γ : jΓ} {Q : jPost} (E : E_X7_actsBack Γ Q) : jSA Γ Q 96 (o_iload 3) 1 := so_iload_n E.2.2.1 rfl dX7_actsBack_96
theorem oo_X7_actsBack_97 {Γ : jΓ} {Q : jPost} (E : E_X7_actsBack Γ Q) : jSA Γ Q 97 (o_iast) 1 := so_iast E.2.2.1 dX7_actsBack_97
theorem oo_X7_actsBack_98 {Γ : jΓ} {Q : jPost} (E : E_X7_actsBack Γ Q) : jSA Γ Q 98 (o_aload 0) 1 := so_aload_n E.2.2.1 rfl dX7_actsBack_98
theorem oo_X7_actsBack_99 {Γ : jΓ} {Q : jPost} (E : E_X7_actsBack Γ Q) : jSA Γ Q 99 (o_getf 7 10) 3 := so_getf (ci := 7) E.2.2.1 wi_X7_actsBack_X7 (by rw [E.2.1]; rfl) 10 (by decide) wl_X7_actsBack_30 dX7_actsBack_99
theorem oo_X7_actsBack_102 {Γ : jΓ} {Q : jPost} (E : E_X7_actsBack Γ Q) : jSA Γ Q 102 (o_iload 1) 1 := so_iload_n E.2.2.1 rfl dX7_actsBack_102
theorem oo_X7_actsBack_103 {Γ : jΓ} {Q : jPost} (E : E_X7_actsBack Γ Q) : jSA Γ Q 103 (o_iload 4) 2 := so_iload E.2.2.1 dX7_actsBack_103
theorem oo_X7_actsBack_105 {Γ : jΓ} {Q : jPost} (E : E_X7_actsBack Γ Q) : jSA Γ Q 105 (o_iast) 1 := so_iast E.2.2.1 dX7_actsBack_105
theorem oo_X7_actsBack_106 {Γ : jΓ} {Q : jPost} (E : E_X7_actsBack Γ Q) : jSA Γ Q 106 (o_aload 0) 1 := so_aload_n E.2.2.1 rfl dX7_actsBack_106
theorem oo_X7_actsBack_107 {Γ : jΓ} {Q : jPost} (E : E_X7_actsBack Γ Q) : jSA Γ Q 107 (o_getf 7 11) 3 := so_getf (ci := 7) E.2.2.1 wi_X7_actsBack_X7 (by rw [E.2.1]; rfl) 11 (by decide) wl_X7_actsBack_33 dX7_actsBack_107
theorem oo_X7_actsBack_110 {Γ : jΓ} {Q : jPost} (E : E_X7_actsBack Γ Q) : jSA Γ Q 110 (o_iload 1) 1 := so_iload_n E.2.2.1 rfl dX7_actsBack_110
theorem oo_X7_actsBack_111 {Γ : jΓ} {Q : jPost} (E : E_X7_actsBack Γ Q) : jSA Γ Q 111 (o_iload 2) 1 := so_iload_n E.2.2.1 rfl dX7_actsBack_111
theorem oo_X7_actsBack_112 {Γ : jΓ} {Q : jPost} (E : E_X7_actsBack Γ Q) : jSA Γ Q 112 (o_aload 0) 1 := so_aload_n E.2.2.1 rfl dX7_actsBack_112
theorem oo_X7_actsBack_113 {Γ : jΓ} {Q : jPost} (E : E_X7_actsBack Γ Q) : jSA Γ Q 113 (o_callV 1 7 T_X7_directions) 3 := so_callV E.2.2.1 (ci := 7) (by rw [E.2.1]; rfl) gX7_actsBack_X7_directions (by decide +kernel) rfl (by rw [E.2.1]; exact m_X7_directions _) (by decide) (by decide) dX7_actsBack_113
theorem oo_X7_actsBack_116 {Γ : jΓ} {Q : jPost} (E : E_X7_actsBack Γ Q) : jSA Γ Q 116 (o_iadd) 1 := so_iadd E.2.2.1 dX7_actsBack_116
theorem oo_X7_actsBack_117 {Γ : jΓ} {Q : jPost} (E : E_X7_actsBack Γ Q) : jSA Γ Q 117 (o_aload 0) 1 := so_aload_n E.2.2.1 rfl dX7_actsBack_117
theorem oo_X7_actsBack_118 {Γ : jΓ} {Q : jPost} (E : E_X7_actsBack Γ Q) : jSA Γ Q 118 (o_getf 7 5) 3 := so_getf (ci := 7) E.2.2.1 wi_X7_actsBack_X7 (by rw [E.2.1]; rfl) 5 (by decide) wl_X7_actsBack_21 dX7_actsBack_118
theorem oo_X7_actsBack_121 {Γ : jΓ} {Q : jPost} (E : E_X7_actsBack Γ Q) : jSA Γ Q 121 (o_ic (12)) 2 := so_bipush E.2.2.1 rfl dX7_actsBack_121
theorem oo_X7_actsBack_123 {Γ : jΓ} {Q : jPost} (E : E_X7_actsBack Γ Q) : jSA Γ Q 123 (o_aload 0) 1 := so_aload_n E.2.2.1 rfl dX7_actsBack_123
theorem oo_X7_actsBack_124 {Γ : jΓ} {Q : jPost} (E : E_X7_actsBack Γ Q) : jSA Γ Q 124 (o_getf 7 12) 3 := so_getf (ci := 7) E.2.2.1 wi_X7_actsBack_X7 (by rw [E.2.1]; rfl) 12 (by decide) wl_X7_actsBack_36 dX7_actsBack_124
theorem oo_X7_actsBack_127 {Γ : jΓ} {Q : jPost} (E : E_X7_actsBack Γ Q) : jSA Γ Q 127 (o_iload 1) 1 := so_iload_n E.2.2.1 rfl dX7_actsBack_127
theorem oo_X7_actsBack_128 {Γ : jΓ} {Q : jPost} (E : E_X7_actsBack Γ Q) : jSA Γ Q 128 (o_iald) 1 := so_iald E.2.2.1 dX7_actsBack_128
theorem oo_X7_actsBack_129 {Γ : jΓ} {Q : jPost} (E : E_X7_actsBack Γ Q) : jSA Γ Q 129 (o_imul) 1 := so_imul E.2.2.1 dX7_actsBack_129
theorem oo_X7_actsBack_130 {Γ : jΓ} {Q : jPost} (E : E_X7_actsBack Γ Q) : jSA Γ Q 130 (o_iload 6) 2 := so_iload E.2.2.1 dX7_actsBack_130
theorem oo_X7_actsBack_132 {Γ : jΓ} {Q : jPost} (E : E_X7_actsBack Γ Q) : jSA Γ Q 132 (o_iadd) 1 := so_iadd E.2.2.1 dX7_actsBack_132
theorem oo_X7_actsBack_133 {Γ : jΓ} {Q : jPost} (E : E_X7_actsBack Γ Q) : jSA Γ Q 133 (o_iald) 1 := so_iald E.2.2.1 dX7_actsBack_133
theorem oo_X7_actsBack_134 {Γ : jΓ} {Q : jPost} (E : E_X7_actsBack Γ Q) : jSA Γ Q 134 (o_isub) 1 := so_isub E.2.2.1 dX7_actsBack_134
theorem oo_X7_actsBack_135 {Γ : jΓ} {Q : jPost} (E : E_X7_actsBack Γ Q) : jSA Γ Q 135 (o_aload 0) 1 := so_aload_n E.2.2.1 rfl dX7_actsBack_135
theorem oo_X7_actsBack_136 {Γ : jΓ} {Q : jPost} (E : E_X7_actsBack Γ Q) : jSA Γ Q 136 (o_callV 1 7 T_X7_directions) 3 := so_callV E.2.2.1 (ci := 7) (by rw [E.2.1]; rfl) gX7_actsBack_X7_directions (by decide +kernel) rfl (by rw [E.2.1]; exact m_X7_directions _) (by decide) (by decide) dX7_actsBack_136
theorem oo_X7_actsBack_139 {Γ : jΓ} {Q : jPost} (E : E_X7_actsBack Γ Q) : jSA Γ Q 139 (o_irem) 1 := so_irem E.2.2.1 dX7_actsBack_139
theorem oo_X7_actsBack_140 {Γ : jΓ} {Q : jPost} (E : E_X7_actsBack Γ Q) : jSA Γ Q 140 (o_iast) 1 := so_iast E.2.2.1 dX7_actsBack_140
theorem oo_X7_actsBack_141 {Γ : jΓ} {Q : jPost} (E : E_X7_actsBack Γ Q) : jSA Γ Q 141 (o_ic (1)) 1 := so_iconst E.2.2.1 rfl dX7_actsBack_141
theorem oo_X7_actsBack_142 {Γ : jΓ} {Q : jPost} (E : E_X7_actsBack Γ Q) : jSA Γ Q 142 (o_iretz) 1 := so_iretz E.2.2.1 E.2.2.2 dX7_actsBack_142
theorem ok_X7_actsBack_0 {Γ : jΓ} {Q : jPost} (E : E_X7_actsBack Γ Q) : jSS Γ Q 0 sg_X7_actsBack_0 := ⟨oo_X7_actsBack_0 E, oo_X7_actsBack_1 E, oo_X7_actsBack_4 E, oo_X7_actsBack_5 E, oo_X7_actsBack_6 E, oo_X7_actsBack_7 E, oo_X7_actsBack_8 E, oo_X7_actsBack_11 E, oo_X7_actsBack_12 E, oo_X7_actsBack_13 E, oo_X7_actsBack_14 E, oo_X7_actsBack_15 E, oo_X7_actsBack_18 E, oo_X7_actsBack_19 E, oo_X7_actsBack_20 E, oo_X7_actsBack_21 E, oo_X7_actsBack_24 E, oo_X7_actsBack_25 E, oo_X7_actsBack_26 E, oo_X7_actsBack_27 E, oo_X7_actsBack_28 E, oo_X7_actsBack_31 E, oo_X7_actsBack_32 E, trivial⟩
theorem ok_X7_actsBack_34 {Γ : jΓ} {Q : jPost} (E : E_X7_actsBack Γ Q) : jSS Γ Q 34 sg_X7_actsBack_34 := ⟨oo_X7_actsBack_34 E, oo_X7_actsBack_35 E, oo_X7_actsBack_37 E, oo_X7_actsBack_40 E, oo_X7_actsBack_43 E, oo_X7_actsBack_44 E, trivial⟩
theorem ok_X7_actsBack_45 {Γ : jΓ} {Q : jPost} (E : E_X7_actsBack Γ Q) : jSS Γ Q 45 sg_X7_actsBack_45 := ⟨oo_X7_actsBack_45 E, oo_X7_actsBack_46 E, oo_X7_actsBack_48 E, oo_X7_actsBack_51 E, oo_X7_actsBack_53 E, oo_X7_actsBack_54 E, oo_X7_actsBack_57 E, oo_X7_actsBack_59 E, oo_X7_actsBack_60 E, oo_X7_actsBack_61 E, oo_X7_actsBack_64 E, oo_X7_actsBack_65 E, oo_X7_actsBack_66 E, oo_X7_actsBack_67 E, oo_X7_actsBack_68 E, oo_X7_actsBack_71 E, oo_X7_actsBack_72 E, trivial⟩
theorem ok_X7_actsBack_74 {Γ : jΓ} {Q : jPost} (E : E_X7_actsBack Γ Q) : jSS Γ Q 74 sg_X7_actsBack_74 := ⟨oo_X7_actsBack_74 E, oo_X7_actsBack_75 E, oo_X7_actsBack_78 E, oo_X7_actsBack_79 E, oo_X7_actsBack_81 E, oo_X7_actsBack_82 E, oo_X7_actsBack_83 E, oo_X7_actsBack_86 E, oo_X7_actsBack_88 E, oo_X7_actsBack_90 E, oo_X7_actsBack_91 E, oo_X7_actsBack_92 E, oo_X7_actsBack_95 E, oo_X7_actsBack_96 E, oo_X7_actsBack_97 E, oo_X7_actsBack_98 E, oo_X7_actsBack_99 E, oo_X7_actsBack_102 E, oo_X7_actsBack_103 E, oo_X7_actsBack_105 E, oo_X7_actsBack_106 E, oo_X7_actsBack_107 E, oo_X7_actsBack_110 E, oo_X7_actsBack_111 E, oo_X7_actsBack_112 E, oo_X7_actsBack_113 E, oo_X7_actsBack_116 E, oo_X7_actsBack_117 E, oo_X7_actsBack_118 E, oo_X7_actsBack_121 E, oo_X7_actsBack_123 E, oo_X7_actsBack_124 E, oo_X7_actsBack_127 E, oo_X7_actsBack_128 E, oo_X7_actsBack_129 E, oo_X7_actsBack_130 E, oo_X7_actsBack_132 E, oo_X7_actsBack_133 E, oo_X7_actsBack_134 E, oo_X7_actsBack_135 E, oo_X7_actsBack_136 E, oo_X7_actsBack_139 E, oo_X7_actsBack_140 E, oo_X7_actsBack_141 E, oo_X7_actsBack_142 E, trivial⟩
theorem okc_X7_actsBack {Γ : jΓ} {Q : jPost} (E : E_X7_actsBack Γ Q) (t : Nat) : jSS Γ Q t (cd_X7_actsBack t) := by
  unfold cd_X7_actsBack
  trivial
theorem m_X7_actsBack_of (l : Launch) (hv : ∀ (G : jGt) (Q : jPost) (vs : List Value) (K : List jK) (h : jM), jHd cd_X7_actsBack G Q sg_X7_actsBack_0 0 → jHd cd_X7_actsBack G Q sg_X7_actsBack_34 34 → jHd cd_X7_actsBack G Q sg_X7_actsBack_45 45 → jHd cd_X7_actsBack G Q sg_X7_actsBack_74 74 → T_X7_actsBack vs K h Q → (lg_sl vs).length ≤ 7 ∧ G 0 (jinit vs 7) [] K h 0 0) : jHolds vwCl l yX7_actsBack wsX7_actsBack 2 43 0 0 T_X7_actsBack := by
  refine jMet (cc := cX7_actsBack) (maxL := 7) (rt := (some .boolean)) (by decide +kernel) rfl (fun Γ Q vs K h hl hn hcl C hR hT => hv (jG Γ) Q vs K h ?_ ?_ ?_ ?_ hT)
  · exact fun n L st K h ce sl => jwp_ok (okc_X7_actsBack ⟨hn, hcl, C, hR⟩) n sg_X7_actsBack_0 0 (ok_X7_actsBack_0 ⟨hn, hcl, C, hR⟩) L st K h ce sl
  · exact fun n L st K h ce sl => jwp_ok (okc_X7_actsBack ⟨hn, hcl, C, hR⟩) n sg_X7_actsBack_34 34 (ok_X7_actsBack_34 ⟨hn, hcl, C, hR⟩) L st K h ce sl
  · exact fun n L st K h ce sl => jwp_ok (okc_X7_actsBack ⟨hn, hcl, C, hR⟩) n sg_X7_actsBack_45 45 (ok_X7_actsBack_45 ⟨hn, hcl, C, hR⟩) L st K h ce sl
  · exact fun n L st K h ce sl => jwp_ok (okc_X7_actsBack ⟨hn, hcl, C, hR⟩) n sg_X7_actsBack_74 74 (ok_X7_actsBack_74 ⟨hn, hcl, C, hR⟩) L st K h ce sl
set_option maxHeartbeats 4000000 in
set_option maxRecDepth 100000 in
theorem v_X7_actsBack {G : jGt} {Q : jPost} {K : List jK} {h : jM} {a : Int32} (hT : jXM K ∧ (∃ A : Nat, A < 6 ∧ a = nI A ∧ (h 37 0 = 0 ∨ h 37 0 = 1) ∧ aFl (mQ h) (mS h) ∧ aAn (mQ h) (mS h) A ∧ (aBOK (mQ h) (mS h) A → Q (some (.int 1)) K (mBackM h A)) ∧ (¬ aBOK (mQ h) (mS h) A → Q (some (.int 0)) K h))) (H0 : jHd cd_X7_actsBack G Q sg_X7_actsBack_0 0) (H34 : jHd cd_X7_actsBack G Q sg_X7_actsBack_34 34) (H45 : jHd cd_X7_actsBack G Q sg_X7_actsBack_45 45) (H74 : jHd cd_X7_actsBack G Q sg_X7_actsBack_74 74) : G 0 [some (.ref 37), some (.int a), none, none, none, none, none] [] K h 0 0 := by
  obtain ⟨hM, A, hA, rfl, hk, hf, ha, hT1, hT0⟩ := hT
  have A31 : A < 2147483648 := by omega
  have hv : vp_in (nI A) 6 := vp_in_nI hA (by decide)
  have x0 : (mS h).2.1 A = h 42 A := cut6_at _ hA
  have y0 : (mS h).2.2.1 A = h 43 A := cut6_at _ hA
  have d0 : (mS h).2.2.2 A = h 44 A := cut6_at _ hA
  have r0 : (mQ h).2.2.2 A = h 45 A := cut6_at _ hA
  have hdin := ha.2.1
  rw [d0] at hdin
  have eX : h 42 A - mdx (h 37 0) (h 44 A) = aBX (mQ h) (mS h) A := by
    rw [(dx_eq hk hdin).1]; unfold aBX; rw [x0, d0]; rfl
  have eY : h 43 A - mdy (h 37 0) (h 44 A) = aBY (mQ h) (mS h) A := by
    rw [(dx_eq hk hdin).2]; unfold aBY; rw [y0, d0]; rfl
  have hn := hf.1
  have n1 : (mQ h).2.1 = h 37 1 := rfl
  rw [n1] at hn
  have nne : ¬ h 37 1 = 0 := fun z => by rw [z] at hn; exact absurd hn.1 (by decide)
  have hD := jdM_D hk
  have hDle := aDn_le (h 37 0)
  have Dne : ¬ nI (aDn (h 37 0)) = 0 := by rw [show (0 : Int32) = nI 0 from rfl, nI_eq (by omega) (by decide)]; omega
  refine H0 60 _ _ _ _ _ _ ?_
  simp only [sg_X7_actsBack_0, sg_X7_actsBack_34, sg_X7_actsBack_45, sg_X7_actsBack_74, cd_X7_actsBack, jwp, o_ic, o_lc, o_iload, o_lload, o_aload, o_istore, o_lstore, o_astore, o_iinc, o_pop, o_dup, o_dup2, o_iadd, o_isub, o_imul, o_iand, o_ior, o_ishl, o_ladd, o_lmul, o_land, o_lor, o_idiv, o_irem, o_ineg, o_i2l, o_l2i, o_i2b, o_i2s, o_lushr, o_lshr, o_lshl, o_lcmp, o_ifeq, o_ifne, o_iflt, o_ifge, o_ifgt, o_ifle, o_iceq, o_icne, o_iclt, o_icge, o_icgt, o_icle, o_goto, o_tsw, jsw, o_lsw, jlk, o_getf, o_putf, o_putz, o_iald, o_zald, o_iast, o_zast, o_aald, o_alen, o_gets, o_zld, o_zlen, o_cpy, o_call, o_callV, o_ireti, o_iretz, o_lret, o_vret, jg, js, jkp, jkill, jsp, jcs, jfw, jov, Value.category, Option.toList_some, Option.toList_none, List.nil_append, List.cons_append, List.append_nil, Nat.reduceAdd, true_and, and_true, jb0, jb01, jb1, jem, true_or, or_true, Classical.not_not, forall_const, List.length_cons, List.length_nil, Nat.reduceLeDiff, Nat.zero_le, Nat.reduceLT, and_self, not_true_eq_false, not_false_eq_true, false_imp_iff, true_imp_iff, implies_true, and_false, false_and, or_false, false_or, hM, km_37_0 hM, km_37_1 hM, km_37_2 hM, km_37_3 hM, km_37_4 hM, km_37_5 hM, km_37_6 hM, km_37_7 hM, km_37_8 hM, km_37_9 hM, km_37_10 hM, km_37_11 hM, km_37_12 hM, km_37_13 hM, km_37_14 hM, km_37_15 hM, km_37_16 hM, km_37_17 hM, km_37_18 hM, km_37_19 hM, km_37_20 hM, km_37_21 hM, km_37_22 hM, km_37_23 hM, km_37_24 hM, km_37_25 hM, km_37_26 hM, km_37_27 hM, km_37_28 hM, km_37_29 hM, km_37_30 hM, km_37_31 hM, km_37_32 hM, kmo_37 hM, kma_38 hM, kma_39 hM, kma_40 hM, kma_41 hM, kma_42 hM, kma_43 hM, kma_44 hM, kma_45 hM, kma_46 hM, kma_47 hM, kma_48 hM, kma_49 hM, kma_50 hM, kma_52 hM, kma_53 hM, kma_54 hM, kma_55 hM, kma_56 hM, kma_51 hM, hv, nI_clamp A31, T_X7_dx, T_X7_dy, eX, eY]
  by_cases hB : aBOK (mQ h) (mS h) A
  · have hT1 := hT1 hB
    clear hT0
    have hP : jpl (aBX (mQ h) (mS h) A) (aBY (mQ h) (mS h) A) = nI (aBP (mQ h) (mS h) A) := by
      unfold aBP
      rw [nI_clampI (vp_in_iff.mp (jpl_in hB)).1]
    have hP57 := aBP_lt hB
    have hPv : vp_in (nI (aBP (mQ h) (mS h) A)) 57600 := vp_in_nI hP57 (by decide)
    have P31 : aBP (mQ h) (mS h) A < 2147483648 := by omega
    have hc0 := hf.2.1 _ hP57
    have hc0' : 0 ≤ (h 38 (aBP (mQ h) (mS h) A)).toInt ∧ (h 38 (aBP (mQ h) (mS h) A)).toInt < (h 37 1).toInt := hc0
    have eC : h 38 (aBP (mQ h) (mS h) A) + h 37 1 - 1 - (h 38 (aBP (mQ h) (mS h) A) + h 37 1 - 1) / h 37 1 * h 37 1 = aBC (mQ h) (mS h) A := rem_colb hn hc0'
    have hcb := aBC_in hf hB
    rw [n1] at hcb
    have hr := ha.2.2
    rw [r0] at hr
    obtain ⟨c, hc12, ec⟩ := jnat (x := aBC (mQ h) (mS h) A) (N := 12) (by omega) (by omega)
    have c31 : c < 2147483648 := by omega
    have hc' : c < 12 := by
      rw [ec, nI_toInt c31] at hcb
      omega
    obtain ⟨r, hr4, er⟩ := vp_in_of hr (by decide)
    have r31 : r < 2147483648 := by omega
    have eix : (12 : Int32) * nI r + nI c = nI (12 * r + c) := by rw [show (12 : Int32) = nI 12 from rfl, nI_mul, nI_add]
    have hixv : vp_in (nI (12 * r + c)) 48 := vp_in_nI (by omega) (by decide)
    have ix31 : 12 * r + c < 2147483648 := by omega
    have eT : (mQ h).2.2.1 (h 45 A).toNatClampNeg (aBC (mQ h) (mS h) A).toNatClampNeg = h 40 (12 * r + c) := by
      have e := m_T (h := h) (r := h 45 A) (c := aBC (mQ h) (mS h) A) hr hcb
      rw [e, er, nI_clamp r31, ec, nI_clamp c31]
    have htin := aBT_in hf ha hB
    rw [r0, eT] at htin
    have eBD : h 44 A + nI (aDn (h 37 0)) - h 40 (12 * r + c) - (h 44 A + nI (aDn (h 37 0)) - h 40 (12 * r + c)) / nI (aDn (h 37 0)) * nI (aDn (h 37 0)) = aBD (mQ h) (mS h) A := by
      rw [rem_back (by omega) hDle.2 hdin htin]
      unfold aBD
      rw [d0, r0, eT]; rfl
    have hB' : onF (aBX (mQ h) (mS h) A) (aBY (mQ h) (mS h) A) := hB
    unfold mBackM at hT1
    rw [ec] at eC hT1
    generalize aBX (mQ h) (mS h) A = X at hP hB' hT1 ⊢
    generalize aBY (mQ h) (mS h) A = Y at hP hB' hT1 ⊢
    refine H34 60 _ _ _ _ _ _ ?_
    simp only [sg_X7_actsBack_0, sg_X7_actsBack_34, sg_X7_actsBack_45, sg_X7_actsBack_74, cd_X7_actsBack, jwp, o_ic, o_lc, o_iload, o_lload, o_aload, o_istore, o_lstore, o_astore, o_iinc, o_pop, o_dup, o_dup2, o_iadd, o_isub, o_imul, o_iand, o_ior, o_ishl, o_ladd, o_lmul, o_land, o_lor, o_idiv, o_irem, o_ineg, o_i2l, o_l2i, o_i2b, o_i2s, o_lushr, o_lshr, o_lshl, o_lcmp, o_ifeq, o_ifne, o_iflt, o_ifge, o_ifgt, o_ifle, o_iceq, o_icne, o_iclt, o_icge, o_icgt, o_icle, o_goto, o_tsw, jsw, o_lsw, jlk, o_getf, o_putf, o_putz, o_iald, o_zald, o_iast, o_zast, o_aald, o_alen, o_gets, o_zld, o_zlen, o_cpy, o_call, o_callV, o_ireti, o_iretz, o_lret, o_vret, jg, js, jkp, jkill, jsp, jcs, jfw, jov, Value.category, Option.toList_some, Option.toList_none, List.nil_append, List.cons_append, List.append_nil, Nat.reduceAdd, true_and, and_true, jb0, jb01, jb1, jem, true_or, or_true, Classical.not_not, forall_const, List.length_cons, List.length_nil, Nat.reduceLeDiff, Nat.zero_le, Nat.reduceLT, and_self, not_true_eq_false, not_false_eq_true, false_imp_iff, true_imp_iff, implies_true, and_false, false_and, or_false, false_or, hM, km_37_0 hM, km_37_1 hM, km_37_2 hM, km_37_3 hM, km_37_4 hM, km_37_5 hM, km_37_6 hM, km_37_7 hM, km_37_8 hM, km_37_9 hM, km_37_10 hM, km_37_11 hM, km_37_12 hM, km_37_13 hM, km_37_14 hM, km_37_15 hM, km_37_16 hM, km_37_17 hM, km_37_18 hM, km_37_19 hM, km_37_20 hM, km_37_21 hM, km_37_22 hM, km_37_23 hM, km_37_24 hM, km_37_25 hM, km_37_26 hM, km_37_27 hM, km_37_28 hM, km_37_29 hM, km_37_30 hM, km_37_31 hM, km_37_32 hM, kmo_37 hM, kma_38 hM, kma_39 hM, kma_40 hM, kma_41 hM, kma_42 hM, kma_43 hM, kma_44 hM, kma_45 hM, kma_46 hM, kma_47 hM, kma_48 hM, kma_49 hM, kma_50 hM, kma_52 hM, kma_53 hM, kma_54 hM, kma_55 hM, kma_56 hM, kma_51 hM, T_X7_isCell, hB']
    refine H45 60 _ _ _ _ _ _ ?_
    simp only [sg_X7_actsBack_0, sg_X7_actsBack_34, sg_X7_actsBack_45, sg_X7_actsBack_74, cd_X7_actsBack, jwp, o_ic, o_lc, o_iload, o_lload, o_aload, o_istore, o_lstore, o_astore, o_iinc, o_pop, o_dup, o_dup2, o_iadd, o_isub, o_imul, o_iand, o_ior, o_ishl, o_ladd, o_lmul, o_land, o_lor, o_idiv, o_irem, o_ineg, o_i2l, o_l2i, o_i2b, o_i2s, o_lushr, o_lshr, o_lshl, o_lcmp, o_ifeq, o_ifne, o_iflt, o_ifge, o_ifgt, o_ifle, o_iceq, o_icne, o_iclt, o_icge, o_icgt, o_icle, o_goto, o_tsw, jsw, o_lsw, jlk, o_getf, o_putf, o_putz, o_iald, o_zald, o_iast, o_zast, o_aald, o_alen, o_gets, o_zld, o_zlen, o_cpy, o_call, o_callV, o_ireti, o_iretz, o_lret, o_vret, jg, js, jkp, jkill, jsp, jcs, jfw, jov, Value.category, Option.toList_some, Option.toList_none, List.nil_append, List.cons_append, List.append_nil, Nat.reduceAdd, true_and, and_true, jb0, jb01, jb1, jem, true_or, or_true, Classical.not_not, forall_const, List.length_cons, List.length_nil, Nat.reduceLeDiff, Nat.zero_le, Nat.reduceLT, and_self, not_true_eq_false, not_false_eq_true, false_imp_iff, true_imp_iff, implies_true, and_false, false_and, or_false, false_or, hM, km_37_0 hM, km_37_1 hM, km_37_2 hM, km_37_3 hM, km_37_4 hM, km_37_5 hM, km_37_6 hM, km_37_7 hM, km_37_8 hM, km_37_9 hM, km_37_10 hM, km_37_11 hM, km_37_12 hM, km_37_13 hM, km_37_14 hM, km_37_15 hM, km_37_16 hM, km_37_17 hM, km_37_18 hM, km_37_19 hM, km_37_20 hM, km_37_21 hM, km_37_22 hM, km_37_23 hM, km_37_24 hM, km_37_25 hM, km_37_26 hM, km_37_27 hM, km_37_28 hM, km_37_29 hM, km_37_30 hM, km_37_31 hM, km_37_32 hM, kmo_37 hM, kma_38 hM, kma_39 hM, kma_40 hM, kma_41 hM, kma_42 hM, kma_43 hM, kma_44 hM, kma_45 hM, kma_46 hM, kma_47 hM, kma_48 hM, kma_49 hM, kma_50 hM, kma_52 hM, kma_53 hM, kma_54 hM, kma_55 hM, kma_56 hM, kma_51 hM, hv, nI_clamp A31, T_X7_cell, hB', hP, hPv, nI_clamp P31, nne, eC]
    refine H74 80 _ _ _ _ _ _ ?_
    have jd : ∀ g : jM, g 37 = h 37 → jdM g = nI (aDn (h 37 0)) := fun g e => by rw [← hD]; unfold jdM; rw [e]
    simp only [sg_X7_actsBack_0, sg_X7_actsBack_34, sg_X7_actsBack_45, sg_X7_actsBack_74, cd_X7_actsBack, jwp, o_ic, o_lc, o_iload, o_lload, o_aload, o_istore, o_lstore, o_astore, o_iinc, o_pop, o_dup, o_dup2, o_iadd, o_isub, o_imul, o_iand, o_ior, o_ishl, o_ladd, o_lmul, o_land, o_lor, o_idiv, o_irem, o_ineg, o_i2l, o_l2i, o_i2b, o_i2s, o_lushr, o_lshr, o_lshl, o_lcmp, o_ifeq, o_ifne, o_iflt, o_ifge, o_ifgt, o_ifle, o_iceq, o_icne, o_iclt, o_icge, o_icgt, o_icle, o_goto, o_tsw, jsw, o_lsw, jlk, o_getf, o_putf, o_putz, o_iald, o_zald, o_iast, o_zast, o_aald, o_alen, o_gets, o_zld, o_zlen, o_cpy, o_call, o_callV, o_ireti, o_iretz, o_lret, o_vret, jg, js, jkp, jkill, jsp, jcs, jfw, jov, Value.category, Option.toList_some, Option.toList_none, List.nil_append, List.cons_append, List.append_nil, Nat.reduceAdd, true_and, and_true, jb0, jb01, jb1, jem, true_or, or_true, Classical.not_not, forall_const, List.length_cons, List.length_nil, Nat.reduceLeDiff, Nat.zero_le, Nat.reduceLT, and_self, not_true_eq_false, not_false_eq_true, false_imp_iff, true_imp_iff, implies_true, and_false, false_and, or_false, false_or, hM, km_37_0 hM, km_37_1 hM, km_37_2 hM, km_37_3 hM, km_37_4 hM, km_37_5 hM, km_37_6 hM, km_37_7 hM, km_37_8 hM, km_37_9 hM, km_37_10 hM, km_37_11 hM, km_37_12 hM, km_37_13 hM, km_37_14 hM, km_37_15 hM, km_37_16 hM, km_37_17 hM, km_37_18 hM, km_37_19 hM, km_37_20 hM, km_37_21 hM, km_37_22 hM, km_37_23 hM, km_37_24 hM, km_37_25 hM, km_37_26 hM, km_37_27 hM, km_37_28 hM, km_37_29 hM, km_37_30 hM, km_37_31 hM, km_37_32 hM, kmo_37 hM, kma_38 hM, kma_39 hM, kma_40 hM, kma_41 hM, kma_42 hM, kma_43 hM, kma_44 hM, kma_45 hM, kma_46 hM, kma_47 hM, kma_48 hM, kma_49 hM, kma_50 hM, kma_52 hM, kma_53 hM, kma_54 hM, kma_55 hM, kma_56 hM, kma_51 hM, hv, nI_clamp A31, hPv, nI_clamp P31, T_X7_directions, er, eix, hixv, nI_clamp ix31, up2_n (show ¬ 37 = 46 by decide), up2_n (show ¬ 37 = 38 by decide), up2_n (show ¬ 37 = 42 by decide), up2_n (show ¬ 37 = 43 by decide), up2_n (show ¬ 40 = 46 by decide), up2_n (show ¬ 40 = 38 by decide), up2_n (show ¬ 40 = 42 by decide), up2_n (show ¬ 40 = 43 by decide), up2_n (show ¬ 45 = 46 by decide), up2_n (show ¬ 45 = 38 by decide), up2_n (show ¬ 45 = 42 by decide), up2_n (show ¬ 45 = 43 by decide)]
    have jd1 : jdM (up2 (up2 (up2 (up2 h 46 A (nI (aBP (mQ h) (mS h) A))) 38 (aBP (mQ h) (mS h) A) (nI c)) 42 A X) 43 A Y) = nI (aDn (h 37 0)) := jd _ (by rw [up2_n (by decide), up2_n (by decide), up2_n (by decide), up2_n (by decide)])
    simp only [jd1, Dne, eBD, and_self, not_true_eq_false, not_false_eq_true, false_imp_iff, true_imp_iff, implies_true, and_false, false_and, or_false, false_or]
    first | exact hT1 | exact ⟨trivial, hT1⟩
  · have hT0 := hT0 hB
    have hB' : ¬ onF (aBX (mQ h) (mS h) A) (aBY (mQ h) (mS h) A) := hB
    generalize aBX (mQ h) (mS h) A = X at hB' ⊢
    generalize aBY (mQ h) (mS h) A = Y at hB' ⊢
    refine H34 60 _ _ _ _ _ _ ?_
    simp only [sg_X7_actsBack_0, sg_X7_actsBack_34, sg_X7_actsBack_45, sg_X7_actsBack_74, cd_X7_actsBack, jwp, o_ic, o_lc, o_iload, o_lload, o_aload, o_istore, o_lstore, o_astore, o_iinc, o_pop, o_dup, o_dup2, o_iadd, o_isub, o_imul, o_iand, o_ior, o_ishl, o_ladd, o_lmul, o_land, o_lor, o_idiv, o_irem, o_ineg, o_i2l, o_l2i, o_i2b, o_i2s, o_lushr, o_lshr, o_lshl, o_lcmp, o_ifeq, o_ifne, o_iflt, o_ifge, o_ifgt, o_ifle, o_iceq, o_icne, o_iclt, o_icge, o_icgt, o_icle, o_goto, o_tsw, jsw, o_lsw, jlk, o_getf, o_putf, o_putz, o_iald, o_zald, o_iast, o_zast, o_aald, o_alen, o_gets, o_zld, o_zlen, o_cpy, o_call, o_callV, o_ireti, o_iretz, o_lret, o_vret, jg, js, jkp, jkill, jsp, jcs, jfw, jov, Value.category, Option.toList_some, Option.toList_none, List.nil_append, List.cons_append, List.append_nil, Nat.reduceAdd, true_and, and_true, jb0, jb01, jb1, jem, true_or, or_true, Classical.not_not, forall_const, List.length_cons, List.length_nil, Nat.reduceLeDiff, Nat.zero_le, Nat.reduceLT, and_self, not_true_eq_false, not_false_eq_true, false_imp_iff, true_imp_iff, implies_true, and_false, false_and, or_false, false_or, hM, km_37_0 hM, km_37_1 hM, km_37_2 hM, km_37_3 hM, km_37_4 hM, km_37_5 hM, km_37_6 hM, km_37_7 hM, km_37_8 hM, km_37_9 hM, km_37_10 hM, km_37_11 hM, km_37_12 hM, km_37_13 hM, km_37_14 hM, km_37_15 hM, km_37_16 hM, km_37_17 hM, km_37_18 hM, km_37_19 hM, km_37_20 hM, km_37_21 hM, km_37_22 hM, km_37_23 hM, km_37_24 hM, km_37_25 hM, km_37_26 hM, km_37_27 hM, km_37_28 hM, km_37_29 hM, km_37_30 hM, km_37_31 hM, km_37_32 hM, kmo_37 hM, kma_38 hM, kma_39 hM, kma_40 hM, kma_41 hM, kma_42 hM, kma_43 hM, kma_44 hM, kma_45 hM, kma_46 hM, kma_47 hM, kma_48 hM, kma_49 hM, kma_50 hM, kma_52 hM, kma_53 hM, kma_54 hM, kma_55 hM, kma_56 hM, kma_51 hM, T_X7_isCell, hB']
    exact hT0
theorem m_X7_actsBack (l : Launch) : jHolds vwCl l yX7_actsBack wsX7_actsBack 2 43 0 0 T_X7_actsBack := by
  refine m_X7_actsBack_of l (fun G Q vs K h H0 H34 H45 H74 hT => ?_)
  unfold T_X7_actsBack at hT
  split at hT
  · obtain ⟨rfl, hT⟩ := hT
    exact ⟨Nat.le_of_ble_eq_true rfl, v_X7_actsBack hT H0 H34 H45 H74⟩
  · exact hT.elim
