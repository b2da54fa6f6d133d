/-! X7_bounds -/
/-! ===== bounds of the reference ===== -/
def mBc (w : Int32) (k : Nat) : Int32 := if w < 2 then nI (k % 240) - 120 else nI (k / 240) - 120
def mBd (h : jM) (w : Int32) : Nat → Int32 × Int32
  | 0 => (1000, -1000)
  | k + 1 => if h 38 k = 0 then mBd h w k else (if (mBd h w k).1 ≤ mBc w k then (mBd h w k).1 else mBc w k, if mBc w k ≤ (mBd h w k).2 then (mBd h w k).2 else mBc w k)
theorem mBd_s (h : jM) (w : Int32) (k : Nat) : mBd h w (k + 1) = if h 38 k = 0 then mBd h w k else (if (mBd h w k).1 ≤ mBc w k then (mBd h w k).1 else mBc w k, if mBc w k ≤ (mBd h w k).2 then (mBd h w k).2 else mBc w k) := rfl
def T_X7_bounds : jT := fun vs K h Q => match vs with
  | [.ref r0, .int w] => r0 = 37 ∧ (jXM K ∧ (¬ (0 ≤ w ∧ w ≤ 3) → Q (some (.int (-1001))) K h) ∧ (0 ≤ w ∧ w ≤ 3 → ∀ b, b = mBd h w 57600 → (b.2 < b.1 → Q (some (.int (-1001))) K h) ∧ (¬ b.2 < b.1 → Q (some (.int (if w = 0 ∨ w = 2 then b.1 else b.2))) K h)))
  | _ => False
def sg_X7_bounds_0 : jS := [(o_iload 1, 1), (o_ic (0), 1), (o_ic (3), 1), (o_call 3 T_X7_in, 3), (o_ifne 13, 3), (o_ic (-1001), 3), (o_ireti, 1)]
def sg_X7_bounds_13 : jS := [(o_ic (1000), 3), (o_istore 2, 1), (o_ic (-1000), 3), (o_istore 3, 1), (o_ic (0), 1), (o_istore 4, 2)]
def sg_X7_bounds_24 : jS := [(o_iload 4, 2), (o_ic (57600), 2), (o_icge 101, 3), (o_aload 0, 1), (o_getf 7 2, 3), (o_iload 4, 2), (o_iald, 1), (o_ifeq 95, 3), (o_iload 1, 1), (o_ic (2), 1), (o_icge 58, 3), (o_iload 4, 2), (o_ic (240), 3), (o_irem, 1), (o_ic (120), 2), (o_isub, 1), (o_goto 67, 3)]
def sg_X7_bounds_58 : jS := [(o_iload 4, 2), (o_ic (240), 3), (o_idiv, 1), (o_ic (120), 2), (o_isub, 1)]
def sg_X7_bounds_67 : jS := [(o_istore 5, 2), (o_iload 5, 2), (o_iload 2, 1), (o_icge 80, 3), (o_iload 5, 2), (o_goto 81, 3)]
def sg_X7_bounds_80 : jS := [(o_iload 2, 1), (o_istore 2, 1), (o_iload 5, 2), (o_iload 3, 1), (o_icle 93, 3), (o_iload 5, 2), (o_goto 94, 3)]
def sg_X7_bounds_81 : jS := [(o_istore 2, 1), (o_iload 5, 2), (o_iload 3, 1), (o_icle 93, 3), (o_iload 5, 2), (o_goto 94, 3)]
def sg_X7_bounds_93 : jS := [(o_iload 3, 1), (o_istore 3, 1)]
def sg_X7_bounds_94 : jS := [(o_istore 3, 1)]
def sg_X7_bounds_95 : jS := [(o_iinc 4 (1), 3), (o_goto 24, 3)]
def sg_X7_bounds_101 : jS := [(o_iload 2, 1), (o_iload 3, 1), (o_icle 112, 3), (o_ic (-1001), 3), (o_goto 123, 3)]
def sg_X7_bounds_112 : jS := [(o_iload 1, 1), (o_ic (2), 1), (o_irem, 1), (o_ifne 122, 3), (o_iload 2, 1), (o_goto 123, 3)]
def sg_X7_bounds_122 : jS := [(o_iload 3, 1), (o_ireti, 1)]
def sg_X7_bounds_123 : jS := [(o_ireti, 1)]
def cd_X7_bounds : Nat → jS := fun t => match t with
  | 13 => sg_X7_bounds_13
  | 58 => sg_X7_bounds_58
  | 80 => sg_X7_bounds_80
  | 81 => sg_X7_bounds_81
  | 93 => sg_X7_bounds_93
  | 94 => sg_X7_bounds_94
  | 101 => sg_X7_bounds_101
  | 112 => sg_X7_bounds_112
  | 122 => sg_X7_bounds_122
  | 123 => sg_X7_bounds_123
  | _ => []
theorem wl_X7_bounds_14 : Cond.fieldLink RX7 14 (TX7 2).1 (TX7 2).2.1 (TX7 2).2.2.1 ∈ wsX7_bounds := by decide +kernel
theorem wi_X7_bounds_X7 : ∀ w ∈ u_ws RX7 TX7 33, w ∈ wsX7_bounds := by decide +kernel
def E_X7_bounds (Γ : jΓ) (Q : jPost) : Prop := Γ.2.2.2.2.2.2.2.2.2.2.1 = 6 ∧ Γ.2.2.2.2.2.2.2.2.2.2.2.1 = vwCl ∧ jC Γ cX7_bounds RX7 "bounds" (some .int) wsX7_bounds 1 22 0 0 ∧ jR Γ Q 0 0
theorem oo_X7_bounds_0 {Γ : jΓ} {Q : jPost} (E : E_X7_bounds Γ Q) : jSA Γ Q 0 (o_iload 1) 1 := so_iload_n E.2.2.1 rfl dX7_bounds_0
theorem oo_X7_bounds_1 {Γ : jΓ} {Q : jPost} (E : E_X7_bounds Γ Q) : jSA Γ Q 1 (o_ic (0)) 1 := so_iconst E.2.2.1 rfl dX7_bounds_1
theorem oo_X7_bounds_2 {Γ : jΓ} {Q : jPost} (E : E_X7_bounds Γ Q) : jSA Γ Q 2 (o_ic (3)) 1 := so_iconst E.2.2.1 rfl dX7_bounds_2
theorem oo_X7_bounds_3 {Γ : jΓ} {Q : jPost} (E : E_X7_bounds Γ Q) : jSA Γ Q 3 (o_call 3 T_X7_in) 3 := so_callS E.2.2.1 gX7_bounds_X7_in (by decide +kernel) rfl (by rw [E.2.1]; exact m_X7_in _) (by decide) (by decide) dX7_bounds_3
theorem oo_X7_bounds_6 {Γ : jΓ} {Q : jPost} (E : E_X7_bounds Γ Q) : jSA Γ Q 6 (o_ifne 13) 3 := so_ifne E.2.2.1 (by decide) dX7_bounds_6
theorem oo_X7_bounds_9 {Γ : jΓ} {Q : jPost} (E : E_X7_bounds Γ Q) : jSA Γ Q 9 (o_ic (-1001)) 3 := so_sipush E.2.2.1 rfl dX7_bounds_9
theorem oo_X7_bounds_12 {Γ : jΓ} {Q : jPost} (E : E_X7_bounds Γ Q) : jSA Γ Q 12 (o_ireti) 1 := so_ireti E.2.2.1 E.2.2.2 dX7_bounds_12
theorem oo_X7_bounds_13 {Γ : jΓ} {Q : jPost} (E : E_X7_bounds Γ Q) : jSA Γ Q 13 (o_ic (1000)) 3 := so_sipush E.2.2.1 rfl dX7_bounds_13
theorem oo_X7_bounds_16 {Γ : jΓ} {Q : jPost} (E : E_X7_bounds Γ Q) : jSA Γ Q 16 (o_istore 2) 1 := so_istore_n E.2.2.1 rfl (by rw [E.1]; decide) dX7_bounds_16
theorem oo_X7_bounds_17 {Γ : jΓ} {Q : jPost} (E : E_X7_bounds Γ Q) : jSA Γ Q 17 (o_ic (-1000)) 3 := so_sipush E.2.2.1 rfl dX7_bounds_17
theorem oo_X7_bounds_20 {Γ : jΓ} {Q : jPost} (E : E_X7_bounds Γ Q) : jSA Γ Q 20 (o_istore 3) 1 := so_istore_n E.2.2.1 rfl (by rw [E.1]; decide) dX7_bounds_20
theorem oo_X7_bounds_21 {Γ : jΓ} {Q : jPost} (E : E_X7_bounds Γ Q) : jSA Γ Q 21 (o_ic (0)) 1 := so_iconst E.2.2.1 rfl dX7_bounds_21
theorem oo_X7_bounds_22 {Γ : jΓ} {Q : jPost} (E : E_X7_bounds Γ Q) : jSA Γ Q 22 (o_istore 4) 2 := so_istore E.2.2.1 (by rw [E.1]; decide) dX7_bounds_22
theorem oo_X7_bounds_24 {Γ : jΓ} {Q : jPost} (E : E_X7_bounds Γ Q) : jSA Γ Q 24 (o_iload 4) 2 := so_iload E.2.2.1 dX7_bounds_24
theorem oo_X7_bounds_26 {Γ : jΓ} {Q : jPost} (E : E_X7_bounds Γ Q) : jSA Γ Q 26 (o_ic (57600)) 2 := so_ldc E.2.2.1 (by decide +kernel) dX7_bounds_26
theorem oo_X7_bounds_28 {Γ : jΓ} {Q : jPost} (E : E_X7_bounds Γ Q) : jSA Γ Q 28 (o_icge 101) 3 := so_icge E.2.2.1 (by decide) dX7_bounds_28
theorem oo_X7_bounds_31 {Γ : jΓ} {Q : jPost} (E : E_X7_bounds Γ Q) : jSA Γ Q 31 (o_aload 0) 1 := so_aload_n E.2.2.1 rfl dX7_bounds_31
theorem oo_X7_bounds_32 {Γ : jΓ} {Q : jPost} (E : E_X7_bounds Γ Q) : jSA Γ Q 32 (o_getf 7 2) 3 := so_getf (ci := 7) E.2.2.1 wi_X7_bounds_X7 (by rw [E.2.1]; rfl) 2 (by decide) wl_X7_bounds_14 dX7_bounds_32
theorem oo_X7_bounds_35 {Γ : jΓ} {Q : jPost} (E : E_X7_bounds Γ Q) : jSA Γ Q 35 (o_iload 4) 2 := so_iload E.2.2.1 dX7_bounds_35
theorem oo_X7_bounds_37 {Γ : jΓ} {Q : jPost} (E : E_X7_bounds Γ Q) : jSA Γ Q 37 (o_iald) 1 := so_iald E.2.2.1 dX7_bounds_37
theorem oo_X7_bounds_38 {Γ : jΓ} {Q : jPost} (E : E_X7_bounds Γ Q) : jSA Γ Q 38 (o_ifeq 95) 3 := so_ifeq E.2.2.1 (by decide) dX7_bounds_38
theorem oo_X7_bounds_41 {Γ : jΓ} {Q : jPost} (E : E_X7_bounds Γ Q) : jSA Γ Q 41 (o_iload 1) 1 := so_iload_n E.2.2.1 rfl dX7_bounds_41
theorem oo_X7_bounds_42 {Γ : jΓ} {Q : jPost} (E : E_X7_bounds Γ Q) : jSA Γ Q 42 (o_ic (2)) 1 := so_iconst E.2.2.1 rfl dX7_bounds_42
theorem oo_X7_bounds_43 {Γ : jΓ} {Q : jPost} (E : E_X7_bounds Γ Q) : jSA Γ Q 43 (o_icge 58) 3 := so_icge E.2.2.1 (by decide) dX7_bounds_43
theorem oo_X7_bounds_46 {Γ : jΓ} {Q : jPost} (E : E_X7_bounds Γ Q) : jSA Γ Q 46 (o_iload 4) 2 := so_iload E.2.2.1 dX7_bounds_46
theorem oo_X7_bounds_48 {Γ : jΓ} {Q : jPost} (E : E_X7_bounds Γ Q) : jSA Γ Q 48 (o_ic (240)) 3 := so_sipush E.2.2.1 rfl dX7_bounds_48
theorem oo_X7_bounds_51 {Γ : jΓ} {Q : jPost} (E : E_X7_bounds Γ Q) : jSA Γ Q 51 (o_irem) 1 := so_irem E.2.2.1 dX7_bounds_51
theorem oo_X7_bounds_52 {Γ : jΓ} {Q : jPost} (E : E_X7_bounds Γ Q) : jSA Γ Q 52 (o_ic (120)) 2 := so_bipush E.2.2.1 rfl dX7_bounds_52
theorem oo_X7_bounds_54 {Γ : jΓ} {Q : jPost} (E : E_X7_bounds Γ Q) : jSA Γ Q 54 (o_isub) 1 := so_isub E.2.2.1 dX7_bounds_54
theorem oo_X7_bounds_55 {Γ : jΓ} {Q : jPost} (E : E_X7_bounds Γ Q) : jSA Γ Q 55 (o_goto 67) 3 := so_goto E.2.2.1 (by decide) dX7_bounds_55
theorem oo_X7_bounds_58 {Γ : jΓ} {Q : jPost} (E : E_X7_bounds Γ Q) : jSA Γ Q 58 (o_iload 4) 2 := so_iload E.2.2.1 dX7_bounds_58
theorem oo_X7_bounds_60 {Γ : jΓ} {Q : jPost} (E : E_X7_bounds Γ Q) : jSA Γ Q 60 (o_ic (240)) 3 := so_sipush E.2.2.1 rfl dX7_bounds_60
theorem oo_X7_bounds_63 {Γ : jΓ} {Q : jPost} (E : E_X7_bounds Γ Q) : jSA Γ Q 63 (o_idiv) 1 := so_idiv E.2.2.1 dX7_bounds_63
theorem oo_X7_bounds_64 {Γ : jΓ} {Q : jPost} (E : E_X7_bounds Γ Q) : jSA Γ Q 64 (o_ic (120)) 2 := so_bipush E.2.2.1 rfl dX7_bounds_64
theorem oo_X7_bounds_66 {Γ : jΓ} {Q : jPost} (E : E_X7_bounds Γ Q) : jSA Γ Q 66 (o_isub) 1 := so_isub E.2.2.1 dX7_bounds_66
theorem oo_X7_bounds_67 {Γ : jΓ} {Q : jPost} (E : E_X7_bounds Γ Q) : jSA Γ Q 67 (o_istore 5) 2 := so_istore E.2.2.1 (by rw [E.1]; decide) dX7_bounds_67
theorem oo_X7_bounds_69 {Γ : jΓ} {Q : jPost} (E : E_X7_bounds Γ Q) : jSA Γ Q 69 (o_iload 5) 2 := so_iload E.2.2.1 dX7_bounds_69
theorem oo_X7_bounds_71 {Γ : jΓ} {Q : jPost} (E : E_X7_bounds Γ Q) : jSA Γ Q 71 (o_iload 2) 1 := so_iload_n E.2.2.1 rfl dX7_bounds_71
theorem oo_X7_bounds_72 {Γ : jΓ} {Q : jPost} (E : E_X7_bounds Γ Q) : jSA Γ Q 72 (o_icge 80) 3 := so_icge E.2.2.1 (by decide) dX7_bounds_72
theorem oo_X7_bounds_75 {Γ : jΓ} {Q : jPost} (E : E_X7_bounds Γ Q) : jSA Γ Q 75 (o_iload 5) 2 := so_iload E.2.2.1 dX7_bounds_75
theorem oo_X7_bounds_77 {Γ : jΓ} {Q : jPost} (E : E_X7_bounds Γ Q) : jSA Γ Q 77 (o_goto 81) 3 := so_goto E.2.2.1 (by decide) dX7_bounds_77
theorem oo_X7_bounds_80 {Γ : jΓ} {Q : jPost} (E : E_X7_bounds Γ Q) : jSA Γ Q 80 (o_iload 2) 1 := so_iload_n E.2.2.1 rfl dX7_bounds_80
theorem oo_X7_bounds_81 {Γ : jΓ} {Q : jPost} (E : E_X7_bounds Γ Q) : jSA Γ Q 81 (o_istore 2) 1 := so_istore_n E.2.2.1 rfl (by rw [E.1]; decide) dX7_bounds_81
theorem oo_X7_bounds_82 {Γ : jΓ} {Q : jPost} (E : E_X7_bounds Γ Q) : jSA Γ Q 82 (o_iload 5) 2 := so_iload E.2.2.1 dX7_bounds_82
theorem oo_X7_bounds_84 {Γ : jΓ} {Q : jPost} (E : E_X7_bounds Γ Q) : jSA Γ Q 84 (o_iload 3) 1 := so_iload_n E.2.2.1 rfl dX7_bounds_84
theorem oo_X7_bounds_85 {Γ : jΓ} {Q : jPost} (E : E_X7_bounds Γ Q) : jSA Γ Q 85 (o_icle 93) 3 := so_icle E.2.2.1 (by decide) dX7_bounds_85
theorem oo_X7_bounds_88 {Γ : jΓ} {Q : jPost} (E : E_X7_bounds Γ Q) : jSA Γ Q 88 (o_iload 5) 2 := so_iload E.2.2.1 dX7_bounds_88
theorem oo_X7_bounds_90 {Γ : jΓ} {Q : jPost} (E : E_X7_bounds Γ Q) : jSA Γ Q 90 (o_goto 94) 3 := so_goto E.2.2.1 (by decide) dX7_bounds_90
theorem oo_X7_bounds_93 {Γ : jΓ} {Q : jPost} (E : E_X7_bounds Γ Q) : jSA Γ Q 93 (o_iload 3) 1 := so_iload_n E.2.2.1 rfl dX7_bounds_93
theorem oo_X7_bounds_94 {Γ : jΓ} {Q : jPost} (E : E_X7_bounds Γ Q) : jSA Γ Q 94 (o_istore 3) 1 := so_istore_n E.2.2.1 rfl (by rw [E.1]; decide) dX7_bounds_94
theorem oo_X7_bounds_95 {Γ : jΓ} {Q : jPost} (E : E_X7_bounds Γ Q) : jSA Γ Q 95 (o_iinc 4 (1)) 3 := so_iinc E.2.2.1 rfl (by rw [E.1]; decide) dX7_bounds_95
theorem oo_X7_bounds_98 {Γ : jΓ} {Q : jPost} (E : E_X7_bounds Γ Q) : jSA Γ Q 98 (o_goto 24) 3 := so_goto E.2.2.1 (by decide) dX7_bounds_98
theorem oo_X7_bounds_101 {Γ : jΓ} {Q : jPost} (E : E_X7_bounds Γ Q) : jSA Γ Q 101 (o_iload 2) 1 := so_iload_n E.2.2.1 rfl dX7_bounds_101
theorem oo_X7_bounds_102 {Γ : jΓ} {Q : jPost} (E : E_X7_bounds Γ Q) : jSA Γ Q 102 (o_iload 3) 1 := so_iload_n E.2.2.1 rfl dX7_bounds_102
theorem oo_X7_bounds_103 {Γ : jΓ} {Q : jPost} (E : E_X7_bounds Γ Q) : jSA Γ Q 103 (o_icle 112) 3 := so_icle E.2.2.1 (by decide) dX7_bounds_103
theorem oo_X7_bounds_106 {Γ : jΓ} {Q : jPost} (E : E_X7_bounds Γ Q) : jSA Γ Q 106 (o_ic (-1001)) 3 := so_sipush E.2.2.1 rfl dX7_bounds_106
theorem oo_X7_bounds_109 {Γ : jΓ} {Q : jPost} (E : E_X7_bounds Γ Q) : jSA Γ Q 109 (o_goto 123) 3 := so_goto E.2.2.1 (by decide) dX7_bounds_109
theorem oo_X7_bounds_112 {Γ : jΓ} {Q : jPost} (E : E_X7_bounds Γ Q) : jSA Γ Q 112 (o_iload 1) 1 := so_iload_n E.2.2.1 rfl dX7_bounds_112
theorem oo_X7_bounds_113 {Γ : jΓ} {Q : jPost} (E : E_X7_bounds Γ Q) : jSA Γ Q 113 (o_ic (2)) 1 := so_iconst E.2.2.1 rfl dX7_bounds_113
theorem oo_X7_bounds_114 {Γ : jΓ} {Q : jPost} (E : E_X7_bounds Γ Q) : jSA Γ Q 114 (o_irem) 1 := so_irem E.2.2.1 dX7_bounds_114
theorem oo_X7_bounds_115 {Γ : jΓ} {Q : jPost} (E : E_X7_bounds Γ Q) : jSA Γ Q 115 (o_ifne 122) 3 := so_ifne E.2.2.1 (by decide) dX7_bounds_115
theorem oo_X7_bounds_118 {Γ : jΓ} {Q : jPost} (E : E_X7_bounds Γ Q) : jSA Γ Q 118 (o_iload 2) 1 := so_iload_n E.2.2.1 rfl dX7_bounds_118
theorem oo_X7_bounds_119 {Γ : jΓ} {Q : jPost} (E : E_X7_bounds Γ Q) : jSA Γ Q 119 (o_goto 123) 3 := so_goto E.2.2.1 (by decide) dX7_bounds_119
theorem oo_X7_bounds_122 {Γ : jΓ} {Q : jPost} (E : E_X7_bounds Γ Q) : jSA Γ Q 122 (o_iload 3) 1 := so_iload_n E.2.2.1 rfl dX7_bounds_122
theorem oo_X7_bounds_123 {Γ : jΓ} {Q : jPost} (E : E_X7_bounds Γ Q) : jSA Γ Q 123 (o_ireti) 1 := so_ireti E.2.2.1 E.2.2.2 dX7_bounds_123
theorem ok_X7_bounds_0 {Γ : jΓ} {Q : jPost} (E : E_X7_bounds Γ Q) : jSS Γ Q 0 sg_X7_bounds_0 := ⟨oo_X7_bounds_0 E, oo_X7_bounds_1 E, oo_X7_bounds_2 E, oo_X7_bounds_3 E, oo_X7_bounds_6 E, oo_X7_bounds_9 E, oo_X7_bounds_12 E, trivial⟩
theorem ok_X7_bounds_13 {Γ : jΓ} {Q : jPost} (E : E_X7_bounds Γ Q) : jSS Γ Q 13 sg_X7_bounds_13 := ⟨oo_X7_bounds_13 E, oo_X7_bounds_16 E, oo_X7_bounds_17 E, oo_X7_bounds_20 E, oo_X7_bounds_21 E, oo_X7_bounds_22 E, trivial⟩
theorem ok_X7_bounds_24 {Γ : jΓ} {Q : jPost} (E : E_X7_bounds Γ Q) : jSS Γ Q 24 sg_X7_bounds_24 := ⟨oo_X7_bounds_24 E, oo_X7_bounds_26 E, oo_X7_bounds_28 E, oo_X7_bounds_31 E, oo_X7_bounds_32 E, oo_X7_bounds_35 E, oo_X7_bounds_37 E, oo_X7_bounds_38 E, oo_X7_bounds_41 E, oo_X7_bounds_42 E, oo_X7_bounds_43 E, oo_X7_bounds_46 E, oo_X7_bounds_48 E, oo_X7_bounds_51 E, oo_X7_bounds_52 E, oo_X7_bounds_54 E, oo_X7_bounds_55 E, trivial⟩
theorem ok_X7_bounds_58 {Γ : jΓ} {Q : jPost} (E : E_X7_bounds Γ Q) : jSS Γ Q 58 sg_X7_bounds_58 := ⟨oo_X7_bounds_58 E, oo_X7_bounds_60 E, oo_X7_bounds_63 E, oo_X7_bounds_64 E, oo_X7_bounds_66 E, trivial⟩
theorem ok_X7_bounds_67 {Γ : jΓ} {Q : jPost} (E : E_X7_bounds Γ Q) : jSS Γ Q 67 sg_X7_bounds_67 := ⟨oo_X7_bounds_67 E, oo_X7_bounds_69 E, oo_X7_bounds_71 E, oo_X7_bounds_72 E, oo_X7_bounds_75 E, oo_X7_bounds_77 E, trivial⟩
theorem ok_X7_bounds_80 {Γ : jΓ} {Q : jPost} (E : E_X7_bounds Γ Q) : jSS Γ Q 80 sg_X7_bounds_80 := ⟨oo_X7_bounds_80 E, oo_X7_bounds_81 E, oo_X7_bounds_82 E, oo_X7_bounds_84 E, oo_X7_bounds_85 E, oo_X7_bounds_88 E, oo_X7_bounds_90 E, trivial⟩
theorem ok_X7_bounds_81 {Γ : jΓ} {Q : jPost} (E : E_X7_bounds Γ Q) : jSS Γ Q 81 sg_X7_bounds_81 := ⟨oo_X7_bounds_81 E, oo_X7_bounds_82 E, oo_X7_bounds_84 E, oo_X7_bounds_85 E, oo_X7_bounds_88 E, oo_X7_bounds_90 E, trivial⟩
theorem ok_X7_bounds_93 {Γ : jΓ} {Q : jPost} (E : E_X7_bounds Γ Q) : jSS Γ Q 93 sg_X7_bounds_93 := ⟨oo_X7_bounds_93 E, oo_X7_bounds_94 E, trivial⟩
theorem ok_X7_bounds_94 {Γ : jΓ} {Q : jPost} (E : E_X7_bounds Γ Q) : jSS Γ Q 94 sg_X7_bounds_94 := ⟨oo_X7_bounds_94 E, trivial⟩
theorem ok_X7_bounds_95 {Γ : jΓ} {Q : jPost} (E : E_X7_bounds Γ Q) : jSS Γ Q 95 sg_X7_bounds_95 := ⟨oo_X7_bounds_95 E, oo_X7_bounds_98 E, trivial⟩
theorem ok_X7_bounds_101 {Γ : jΓ} {Q : jPost} (E : E_X7_bounds Γ Q) : jSS Γ Q 101 sg_X7_bounds_101 := ⟨oo_X7_bounds_101 E, oo_X7_bounds_102 E, oo_X7_bounds_103 E, oo_X7_bounds_106 E, oo_X7_bounds_109 E, trivial⟩
theorem ok_X7_bounds_112 {Γ : jΓ} {Q : jPost} (E : E_X7_bounds Γ Q) : jSS Γ Q 112 sg_X7_bounds_112 := ⟨oo_X7_bounds_112 E, oo_X7_bounds_113 E, oo_X7_bounds_114 E, oo_X7_bounds_115 E, oo_X7_bounds_118 E, oo_X7_bounds_119 E, trivial⟩
theorem ok_X7_bounds_122 {Γ : jΓ} {Q : jPost} (E : E_X7_bounds Γ Q) : jSS Γ Q 122 sg_X7_bounds_122 := ⟨oo_X7_bounds_122 E, oo_X7_bounds_123 E, trivial⟩
theorem ok_X7_bounds_123 {Γ : jΓ} {Q : jPost} (E : E_X7_bounds Γ Q) : jSS Γ Q 123 sg_X7_bounds_123 := ⟨oo_X7_bounds_123 E, trivial⟩
theorem okc_X7_bounds {Γ : jΓ} {Q : jPost} (E : E_X7_bounds Γ Q) (t : Nat) : jSS Γ Q t (cd_X7_bounds t) := by
  unfold cd_X7_bounds
  split
  · exact ok_X7_bounds_13 E
  · exact ok_X7_bounds_58 E
  · exact ok_X7_bounds_80 E
  · exact ok_X7_bounds_81 E
  · exact ok_X7_bounds_93 E
  · exact ok_X7_bounds_94 E
  · exact ok_X7_bounds_101 E
  · exact ok_X7_bounds_112 E
  · exact ok_X7_bounds_122 E
  · exact ok_X7_bounds_123 E
  · trivial
theorem m_X7_bounds_of (l : Launch) (hv : ∀ (G : jGt) (Q : jPost) (vs : List Value) (K : List jK) (h : jM), jHd cd_X7_bounds G Q sg_X7_bounds_0 0 → jHd cd_X7_bounds G Q sg_X7_bounds_24 24 → jHd cd_X7_bounds G Q sg_X7_bounds_67 67 → jHd cd_X7_bounds G Q sg_X7_bounds_95 95 → T_X7_bounds vs K h Q → (lg_sl vs).length ≤ 6 ∧ G 0 (jinit vs 6) [] K h 0 0) : jHolds vwCl l yX7_bounds wsX7_bounds 1 22 0 0 T_X7_bounds := by
  refine jMet (cc := cX7_bounds) (maxL := 6) (rt := (some .int)) (by decide +kernel) rfl (fun Γ Q vs K h hl hn hcl C hR hT => hv (jG Γ) Q vs K h ?_ ?_ ?_ ?_ hT)
  · exact fun n L st K h ce sl => jwp_ok (okc_X7_bounds ⟨hn, hcl, C, hR⟩) n sg_X7_bounds_0 0 (ok_X7_bounds_0 ⟨hn, hcl, C, hR⟩) L st K h ce sl
  · exact fun n L st K h ce sl => jwp_ok (okc_X7_bounds ⟨hn, hcl, C, hR⟩) n sg_X7_bounds_24 24 (ok_X7_bounds_24 ⟨hn, hcl, C, hR⟩) L st K h ce sl
  · exact fun n L st K h ce sl => jwp_ok (okc_X7_bounds ⟨hn, hcl, C, hR⟩) n sg_X7_bounds_67 67 (ok_X7_bounds_67 ⟨hn, hcl, C, hR⟩) L st K h ce sl
  · exact fun n L st K h ce sl => jwp_ok (okc_X7_bounds ⟨hn, hcl, C, hR⟩) n sg_X7_bounds_95 95 (ok_X7_bounds_95 ⟨hn, hcl, C, hR⟩) L st K h ce sl
set_option maxHeartbeats 4000000 in
set_option maxRecDepth 100000 in
theorem v_X7_bounds {G : jGt} {Q : jPost} {K : List jK} {h : jM} {w : Int32} (hT : jXM K ∧ (¬ (0 ≤ w ∧ w ≤ 3) → Q (some (.int (-1001))) K h) ∧ (0 ≤ w ∧ w ≤ 3 → ∀ b, b = mBd h w 57600 → (b.2 < b.1 → Q (some (.int (-1001))) K h) ∧ (¬ b.2 < b.1 → Q (some (.int (if w = 0 ∨ w = 2 then b.1 else b.2))) K h))) (H0 : jHd cd_X7_bounds G Q sg_X7_bounds_0 0) (H24 : jHd cd_X7_bounds G Q sg_X7_bounds_24 24) (H67 : jHd cd_X7_bounds G Q sg_X7_bounds_67 67) (H95 : jHd cd_X7_bounds G Q sg_X7_bounds_95 95) : G 0 [some (.ref 37), some (.int w), none, none, none, none] [] K h 0 0 := by
  obtain ⟨hM, hT0, hT1⟩ := hT
  by_cases c1 : 0 ≤ w ∧ w ≤ 3
  · have hT1 := hT1 c1 _ rfl
    have h95 : ∀ (lo hi w4 v : Int32), G 24 [some (.ref 37), some (.int w), some (.int lo), some (.int hi), some (.int (w4 + 1)), some (.int v)] [] K h 0 0 → G 95 [some (.ref 37), some (.int w), some (.int lo), some (.int hi), some (.int w4), some (.int v)] [] K h 0 0 := by
      intro lo hi w4 v hG
      refine H95 60 _ _ _ _ _ _ ?_
      simp only [sg_X7_bounds_0, sg_X7_bounds_13, sg_X7_bounds_24, sg_X7_bounds_58, sg_X7_bounds_67, sg_X7_bounds_80, sg_X7_bounds_81, sg_X7_bounds_93, sg_X7_bounds_94, sg_X7_bounds_95, sg_X7_bounds_101, sg_X7_bounds_112, sg_X7_bounds_122, sg_X7_bounds_123, cd_X7_bounds, jwp, o_ic, o_lc, o_iload, o_lload, o_aload, o_istore, o_lstore, o_astore, o_iinc, o_pop, o_dup, o_dup2, o_iadd, o_isub, o_imul, o_iand, o_ior, o_ishl, o_ladd, o_lmul, o_land, o_lor, o_idiv, o_irem, o_ineg, o_i2l, o_l2i, o_i2b, o_i2s, o_lushr, o_lshr, o_lshl, o_lcmp, o_ifeq, o_ifne, o_iflt, o_ifge, o_ifgt, o_ifle, o_iceq, o_icne, o_iclt, o_icge, o_icgt, o_icle, o_goto, o_tsw, jsw, o_lsw, jlk, o_getf, o_putf, o_putz, o_iald, o_zald, o_iast, o_zast, o_aald, o_alen, o_gets, o_zld, o_zlen, o_cpy, o_call, o_callV, o_ireti, o_iretz, o_lret, o_vret, jg, js, jkp, jkill, jsp, jcs, jfw, jov, Value.category, Option.toList_some, Option.toList_none, List.nil_append, List.cons_append, List.append_nil, Nat.reduceAdd, true_and, and_true, jb0, jb01, jb1, jem, true_or, or_true, Classical.not_not, forall_const, List.length_cons, List.length_nil, Nat.reduceLeDiff, Nat.zero_le, Nat.reduceLT, hM, km_37_0 hM, km_37_1 hM, km_37_2 hM, km_37_3 hM, km_37_4 hM, km_37_5 hM, km_37_6 hM, km_37_7 hM, km_37_8 hM, km_37_9 hM, km_37_10 hM, km_37_11 hM, km_37_12 hM, km_37_13 hM, km_37_14 hM, km_37_15 hM, km_37_16 hM, km_37_17 hM, km_37_18 hM, km_37_19 hM, km_37_20 hM, km_37_21 hM, km_37_22 hM, km_37_23 hM, km_37_24 hM, km_37_25 hM, km_37_26 hM, km_37_27 hM, km_37_28 hM, km_37_29 hM, km_37_30 hM, km_37_31 hM, km_37_32 hM, kmo_37 hM, kma_38 hM, kma_39 hM, kma_40 hM, kma_41 hM, kma_42 hM, kma_43 hM, kma_44 hM, kma_45 hM, kma_46 hM, kma_47 hM, kma_48 hM, kma_49 hM, kma_50 hM, kma_52 hM, kma_53 hM, kma_54 hM, kma_55 hM, kma_56 hM, kma_51 hM]
      exact hG
    have h95n : ∀ (lo hi w4 : Int32) x5, G 24 [some (.ref 37), some (.int w), some (.int lo), some (.int hi), some (.int (w4 + 1)), x5] [] K h 0 0 → G 95 [some (.ref 37), some (.int w), some (.int lo), some (.int hi), some (.int w4), x5] [] K h 0 0 := by
      intro lo hi w4 x5 hG
      refine H95 60 _ _ _ _ _ _ ?_
      simp only [sg_X7_bounds_0, sg_X7_bounds_13, sg_X7_bounds_24, sg_X7_bounds_58, sg_X7_bounds_67, sg_X7_bounds_80, sg_X7_bounds_81, sg_X7_bounds_93, sg_X7_bounds_94, sg_X7_bounds_95, sg_X7_bounds_101, sg_X7_bounds_112, sg_X7_bounds_122, sg_X7_bounds_123, cd_X7_bounds, jwp, o_ic, o_lc, o_iload, o_lload, o_aload, o_istore, o_lstore, o_astore, o_iinc, o_pop, o_dup, o_dup2, o_iadd, o_isub, o_imul, o_iand, o_ior, o_ishl, o_ladd, o_lmul, o_land, o_lor, o_idiv, o_irem, o_ineg, o_i2l, o_l2i, o_i2b, o_i2s, o_lushr, o_lshr, o_lshl, o_lcmp, o_ifeq, o_ifne, o_iflt, o_ifge, o_ifgt, o_ifle, o_iceq, o_icne, o_iclt, o_icge, o_icgt, o_icle, o_goto, o_tsw, jsw, o_lsw, jlk, o_getf, o_putf, o_putz, o_iald, o_zald, o_iast, o_zast, o_aald, o_alen, o_gets, o_zld, o_zlen, o_cpy, o_call, o_callV, o_ireti, o_iretz, o_lret, o_vret, jg, js, jkp, jkill, jsp, jcs, jfw, jov, Value.category, Option.toList_some, Option.toList_none, List.nil_append, List.cons_append, List.append_nil, Nat.reduceAdd, true_and, and_true, jb0, jb01, jb1, jem, true_or, or_true, Classical.not_not, forall_const, List.length_cons, List.length_nil, Nat.reduceLeDiff, Nat.zero_le, Nat.reduceLT, hM, km_37_0 hM, km_37_1 hM, km_37_2 hM, km_37_3 hM, km_37_4 hM, km_37_5 hM, km_37_6 hM, km_37_7 hM, km_37_8 hM, km_37_9 hM, km_37_10 hM, km_37_11 hM, km_37_12 hM, km_37_13 hM, km_37_14 hM, km_37_15 hM, km_37_16 hM, km_37_17 hM, km_37_18 hM, km_37_19 hM, km_37_20 hM, km_37_21 hM, km_37_22 hM, km_37_23 hM, km_37_24 hM, km_37_25 hM, km_37_26 hM, km_37_27 hM, km_37_28 hM, km_37_29 hM, km_37_30 hM, km_37_31 hM, km_37_32 hM, kmo_37 hM, kma_38 hM, kma_39 hM, kma_40 hM, kma_41 hM, kma_42 hM, kma_43 hM, kma_44 hM, kma_45 hM, kma_46 hM, kma_47 hM, kma_48 hM, kma_49 hM, kma_50 hM, kma_52 hM, kma_53 hM, kma_54 hM, kma_55 hM, kma_56 hM, kma_51 hM]
      exact hG
    have h67 : ∀ (lo hi w4 v : Int32) x5, G 95 [some (.ref 37), some (.int w), some (.int (if lo ≤ v then lo else v)), some (.int (if v ≤ hi then hi else v)), some (.int w4), some (.int v)] [] K h 0 0 → G 67 [some (.ref 37), some (.int w), some (.int lo), some (.int hi), some (.int w4), x5] [.int v] K h 0 0 := by
      intro lo hi w4 v x5 hG
      by_cases d1 : lo ≤ v
      · by_cases d2 : v ≤ hi
        · rw [if_pos d1, if_pos d2] at hG
          refine H67 60 _ _ _ _ _ _ ?_
          simp only [sg_X7_bounds_0, sg_X7_bounds_13, sg_X7_bounds_24, sg_X7_bounds_58, sg_X7_bounds_67, sg_X7_bounds_80, sg_X7_bounds_81, sg_X7_bounds_93, sg_X7_bounds_94, sg_X7_bounds_95, sg_X7_bounds_101, sg_X7_bounds_112, sg_X7_bounds_122, sg_X7_bounds_123, cd_X7_bounds, jwp, o_ic, o_lc, o_iload, o_lload, o_aload, o_istore, o_lstore, o_astore, o_iinc, o_pop, o_dup, o_dup2, o_iadd, o_isub, o_imul, o_iand, o_ior, o_ishl, o_ladd, o_lmul, o_land, o_lor, o_idiv, o_irem, o_ineg, o_i2l, o_l2i, o_i2b, o_i2s, o_lushr, o_lshr, o_lshl, o_lcmp, o_ifeq, o_ifne, o_iflt, o_ifge, o_ifgt, o_ifle, o_iceq, o_icne, o_iclt, o_icge, o_icgt, o_icle, o_goto, o_tsw, jsw, o_lsw, jlk, o_getf, o_putf, o_putz, o_iald, o_zald, o_iast, o_zast, o_aald, o_alen, o_gets, o_zld, o_zlen, o_cpy, o_call, o_callV, o_ireti, o_iretz, o_lret, o_vret, jg, js, jkp, jkill, jsp, jcs, jfw, jov, Value.category, Option.toList_some, Option.toList_none, List.nil_append, List.cons_append, List.append_nil, Nat.reduceAdd, true_and, and_true, jb0, jb01, jb1, jem, true_or, or_true, Classical.not_not, forall_const, List.length_cons, List.length_nil, Nat.reduceLeDiff, Nat.zero_le, Nat.reduceLT, and_self, not_true_eq_false, not_false_eq_true, false_imp_iff, true_imp_iff, implies_true, and_false, false_and, or_false, false_or, hM, km_37_0 hM, km_37_1 hM, km_37_2 hM, km_37_3 hM, km_37_4 hM, km_37_5 hM, km_37_6 hM, km_37_7 hM, km_37_8 hM, km_37_9 hM, km_37_10 hM, km_37_11 hM, km_37_12 hM, km_37_13 hM, km_37_14 hM, km_37_15 hM, km_37_16 hM, km_37_17 hM, km_37_18 hM, km_37_19 hM, km_37_20 hM, km_37_21 hM, km_37_22 hM, km_37_23 hM, km_37_24 hM, km_37_25 hM, km_37_26 hM, km_37_27 hM, km_37_28 hM, km_37_29 hM, km_37_30 hM, km_37_31 hM, km_37_32 hM, kmo_37 hM, kma_38 hM, kma_39 hM, kma_40 hM, kma_41 hM, kma_42 hM, kma_43 hM, kma_44 hM, kma_45 hM, kma_46 hM, kma_47 hM, kma_48 hM, kma_49 hM, kma_50 hM, kma_52 hM, kma_53 hM, kma_54 hM, kma_55 hM, kma_56 hM, kma_51 hM, d1, d2]
          exact hG
        · rw [if_pos d1, if_neg d2] at hG
          refine H67 60 _ _ _ _ _ _ ?_
          simp only [sg_X7_bounds_0, sg_X7_bounds_13, sg_X7_bounds_24, sg_X7_bounds_58, sg_X7_bounds_67, sg_X7_bounds_80, sg_X7_bounds_81, sg_X7_bounds_93, sg_X7_bounds_94, sg_X7_bounds_95, sg_X7_bounds_101, sg_X7_bounds_112, sg_X7_bounds_122, sg_X7_bounds_123, cd_X7_bounds, jwp, o_ic, o_lc, o_iload, o_lload, o_aload, o_istore, o_lstore, o_astore, o_iinc, o_pop, o_dup, o_dup2, o_iadd, o_isub, o_imul, o_iand, o_ior, o_ishl, o_ladd, o_lmul, o_land, o_lor, o_idiv, o_irem, o_ineg, o_i2l, o_l2i, o_i2b, o_i2s, o_lushr, o_lshr, o_lshl, o_lcmp, o_ifeq, o_ifne, o_iflt, o_ifge, o_ifgt, o_ifle, o_iceq, o_icne, o_iclt, o_icge, o_icgt, o_icle, o_goto, o_tsw, jsw, o_lsw, jlk, o_getf, o_putf, o_putz, o_iald, o_zald, o_iast, o_zast, o_aald, o_alen, o_gets, o_zld, o_zlen, o_cpy, o_call, o_callV, o_ireti, o_iretz, o_lret, o_vret, jg, js, jkp, jkill, jsp, jcs, jfw, jov, Value.category, Option.toList_some, Option.toList_none, List.nil_append, List.cons_append, List.append_nil, Nat.reduceAdd, true_and, and_true, jb0, jb01, jb1, jem, true_or, or_true, Classical.not_not, forall_const, List.length_cons, List.length_nil, Nat.reduceLeDiff, Nat.zero_le, Nat.reduceLT, and_self, not_true_eq_false, not_false_eq_true, false_imp_iff, true_imp_iff, implies_true, and_false, false_and, or_false, false_or, hM, km_37_0 hM, km_37_1 hM, km_37_2 hM, km_37_3 hM, km_37_4 hM, km_37_5 hM, km_37_6 hM, km_37_7 hM, km_37_8 hM, km_37_9 hM, km_37_10 hM, km_37_11 hM, km_37_12 hM, km_37_13 hM, km_37_14 hM, km_37_15 hM, km_37_16 hM, km_37_17 hM, km_37_18 hM, km_37_19 hM, km_37_20 hM, km_37_21 hM, km_37_22 hM, km_37_23 hM, km_37_24 hM, km_37_25 hM, km_37_26 hM, km_37_27 hM, km_37_28 hM, km_37_29 hM, km_37_30 hM, km_37_31 hM, km_37_32 hM, kmo_37 hM, kma_38 hM, kma_39 hM, kma_40 hM, kma_41 hM, kma_42 hM, kma_43 hM, kma_44 hM, kma_45 hM, kma_46 hM, kma_47 hM, kma_48 hM, kma_49 hM, kma_50 hM, kma_52 hM, kma_53 hM, kma_54 hM, kma_55 hM, kma_56 hM, kma_51 hM, d1, d2]
          exact hG
      · by_cases d2 : v ≤ hi
        · rw [if_neg d1, if_pos d2] at hG
          refine H67 60 _ _ _ _ _ _ ?_
          simp only [sg_X7_bounds_0, sg_X7_bounds_13, sg_X7_bounds_24, sg_X7_bounds_58, sg_X7_bounds_67, sg_X7_bounds_80, sg_X7_bounds_81, sg_X7_bounds_93, sg_X7_bounds_94, sg_X7_bounds_95, sg_X7_bounds_101, sg_X7_bounds_112, sg_X7_bounds_122, sg_X7_bounds_123, cd_X7_bounds, jwp, o_ic, o_lc, o_iload, o_lload, o_aload, o_istore, o_lstore, o_astore, o_iinc, o_pop, o_dup, o_dup2, o_iadd, o_isub, o_imul, o_iand, o_ior, o_ishl, o_ladd, o_lmul, o_land, o_lor, o_idiv, o_irem, o_ineg, o_i2l, o_l2i, o_i2b, o_i2s, o_lushr, o_lshr, o_lshl, o_lcmp, o_ifeq, o_ifne, o_iflt, o_ifge, o_ifgt, o_ifle, o_iceq, o_icne, o_iclt, o_icge, o_icgt, o_icle, o_goto, o_tsw, jsw, o_lsw, jlk, o_getf, o_putf, o_putz, o_iald, o_zald, o_iast, o_zast, o_aald, o_alen, o_gets, o_zld, o_zlen, o_cpy, o_call, o_callV, o_ireti, o_iretz, o_lret, o_vret, jg, js, jkp, jkill, jsp, jcs, jfw, jov, Value.category, Option.toList_some, Option.toList_none, List.nil_append, List.cons_append, List.append_nil, Nat.reduceAdd, true_and, and_true, jb0, jb01, jb1, jem, true_or, or_true, Classical.not_not, forall_const, List.length_cons, List.length_nil, Nat.reduceLeDiff, Nat.zero_le, Nat.reduceLT, and_self, not_true_eq_false, not_false_eq_true, false_imp_iff, true_imp_iff, implies_true, and_false, false_and, or_false, false_or, hM, km_37_0 hM, km_37_1 hM, km_37_2 hM, km_37_3 hM, km_37_4 hM, km_37_5 hM, km_37_6 hM, km_37_7 hM, km_37_8 hM, km_37_9 hM, km_37_10 hM, km_37_11 hM, km_37_12 hM, km_37_13 hM, km_37_14 hM, km_37_15 hM, km_37_16 hM, km_37_17 hM, km_37_18 hM, km_37_19 hM, km_37_20 hM, km_37_21 hM, km_37_22 hM, km_37_23 hM, km_37_24 hM, km_37_25 hM, km_37_26 hM, km_37_27 hM, km_37_28 hM, km_37_29 hM, km_37_30 hM, km_37_31 hM, km_37_32 hM, kmo_37 hM, kma_38 hM, kma_39 hM, kma_40 hM, kma_41 hM, kma_42 hM, kma_43 hM, kma_44 hM, kma_45 hM, kma_46 hM, kma_47 hM, kma_48 hM, kma_49 hM, kma_50 hM, kma_52 hM, kma_53 hM, kma_54 hM, kma_55 hM, kma_56 hM, kma_51 hM, d1, d2]
          exact hG
        · rw [if_neg d1, if_neg d2] at hG
          refine H67 60 _ _ _ _ _ _ ?_
          simp only [sg_X7_bounds_0, sg_X7_bounds_13, sg_X7_bounds_24, sg_X7_bounds_58, sg_X7_bounds_67, sg_X7_bounds_80, sg_X7_bounds_81, sg_X7_bounds_93, sg_X7_bounds_94, sg_X7_bounds_95, sg_X7_bounds_101, sg_X7_bounds_112, sg_X7_bounds_122, sg_X7_bounds_123, cd_X7_bounds, jwp, o_ic, o_lc, o_iload, o_lload, o_aload, o_istore, o_lstore, o_astore, o_iinc, o_pop, o_dup, o_dup2, o_iadd, o_isub, o_imul, o_iand, o_ior, o_ishl, o_ladd, o_lmul, o_land, o_lor, o_idiv, o_irem, o_ineg, o_i2l, o_l2i, o_i2b, o_i2s, o_lushr, o_lshr, o_lshl, o_lcmp, o_ifeq, o_ifne, o_iflt, o_ifge, o_ifgt, o_ifle, o_iceq, o_icne, o_iclt, o_icge, o_icgt, o_icle, o_goto, o_tsw, jsw, o_lsw, jlk, o_getf, o_putf, o_putz, o_iald, o_zald, o_iast, o_zast, o_aald, o_alen, o_gets, o_zld, o_zlen, o_cpy, o_call, o_callV, o_ireti, o_iretz, o_lret, o_vret, jg, js, jkp, jkill, jsp, jcs, jfw, jov, Value.category, Option.toList_some, Option.toList_none, List.nil_append, List.cons_append, List.append_nil, Nat.reduceAdd, true_and, and_true, jb0, jb01, jb1, jem, true_or, or_true, Classical.not_not, forall_const, List.length_cons, List.length_nil, Nat.reduceLeDiff, Nat.zero_le, Nat.reduceLT, and_self, not_true_eq_false, not_false_eq_true, false_imp_iff, true_imp_iff, implies_true, and_false, false_and, or_false, false_or, hM, km_37_0 hM, km_37_1 hM, km_37_2 hM, km_37_3 hM, km_37_4 hM, km_37_5 hM, km_37_6 hM, km_37_7 hM, km_37_8 hM, km_37_9 hM, km_37_10 hM, km_37_11 hM, km_37_12 hM, km_37_13 hM, km_37_14 hM, km_37_15 hM, km_37_16 hM, km_37_17 hM, km_37_18 hM, km_37_19 hM, km_37_20 hM, km_37_21 hM, km_37_22 hM, km_37_23 hM, km_37_24 hM, km_37_25 hM, km_37_26 hM, km_37_27 hM, km_37_28 hM, km_37_29 hM, km_37_30 hM, km_37_31 hM, km_37_32 hM, kmo_37 hM, kma_38 hM, kma_39 hM, kma_40 hM, kma_41 hM, kma_42 hM, kma_43 hM, kma_44 hM, kma_45 hM, kma_46 hM, kma_47 hM, kma_48 hM, kma_49 hM, kma_50 hM, kma_52 hM, kma_53 hM, kma_54 hM, kma_55 hM, kma_56 hM, kma_51 hM, d1, d2]
          exact hG
    have loop : ∀ m k, k + m = 57600 → ∀ x5, G 24 [some (.ref 37), some (.int w), some (.int (mBd h w k).1), some (.int (mBd h w k).2), some (.int (nI k)), x5] [] K h 0 0 := by
      intro m
      induction m with
      | zero =>
        intro k hk x5
        have ek : k = 57600 := by omega
        subst ek
        have hle : (57600 : Int32) ≤ nI 57600 := by decide
        generalize nI 57600 = z at hle ⊢
        generalize mBd h w 57600 = b at hT1 ⊢
        obtain ⟨hA, hB⟩ := hT1
        obtain ⟨j, hj, rfl⟩ := sh_of c1
        have e2 : nI j - nI j / 2 * 2 = nI (j % 2) := by
          rw [show (2 : Int32) = nI 2 from rfl]
          exact jrem (by omega) (by decide) (by decide)
        refine H24 60 _ _ _ _ _ _ ?_
        simp only [sg_X7_bounds_0, sg_X7_bounds_13, sg_X7_bounds_24, sg_X7_bounds_58, sg_X7_bounds_67, sg_X7_bounds_80, sg_X7_bounds_81, sg_X7_bounds_93, sg_X7_bounds_94, sg_X7_bounds_95, sg_X7_bounds_101, sg_X7_bounds_112, sg_X7_bounds_122, sg_X7_bounds_123, cd_X7_bounds, jwp, o_ic, o_lc, o_iload, o_lload, o_aload, o_istore, o_lstore, o_astore, o_iinc, o_pop, o_dup, o_dup2, o_iadd, o_isub, o_imul, o_iand, o_ior, o_ishl, o_ladd, o_lmul, o_land, o_lor, o_idiv, o_irem, o_ineg, o_i2l, o_l2i, o_i2b, o_i2s, o_lushr, o_lshr, o_lshl, o_lcmp, o_ifeq, o_ifne, o_iflt, o_ifge, o_ifgt, o_ifle, o_iceq, o_icne, o_iclt, o_icge, o_icgt, o_icle, o_goto, o_tsw, jsw, o_lsw, jlk, o_getf, o_putf, o_putz, o_iald, o_zald, o_iast, o_zast, o_aald, o_alen, o_gets, o_zld, o_zlen, o_cpy, o_call, o_callV, o_ireti, o_iretz, o_lret, o_vret, jg, js, jkp, jkill, jsp, jcs, jfw, jov, Value.category, Option.toList_some, Option.toList_none, List.nil_append, List.cons_append, List.append_nil, Nat.reduceAdd, true_and, and_true, jb0, jb01, jb1, jem, true_or, or_true, Classical.not_not, forall_const, List.length_cons, List.length_nil, Nat.reduceLeDiff, Nat.zero_le, Nat.reduceLT, and_self, not_true_eq_false, not_false_eq_true, false_imp_iff, true_imp_iff, implies_true, and_false, false_and, or_false, false_or, hM, km_37_0 hM, km_37_1 hM, km_37_2 hM, km_37_3 hM, km_37_4 hM, km_37_5 hM, km_37_6 hM, km_37_7 hM, km_37_8 hM, km_37_9 hM, km_37_10 hM, km_37_11 hM, km_37_12 hM, km_37_13 hM, km_37_14 hM, km_37_15 hM, km_37_16 hM, km_37_17 hM, km_37_18 hM, km_37_19 hM, km_37_20 hM, km_37_21 hM, km_37_22 hM, km_37_23 hM, km_37_24 hM, km_37_25 hM, km_37_26 hM, km_37_27 hM, km_37_28 hM, km_37_29 hM, km_37_30 hM, km_37_31 hM, km_37_32 hM, kmo_37 hM, kma_38 hM, kma_39 hM, kma_40 hM, kma_41 hM, kma_42 hM, kma_43 hM, kma_44 hM, kma_45 hM, kma_46 hM, kma_47 hM, kma_48 hM, kma_49 hM, kma_50 hM, kma_52 hM, kma_53 hM, kma_54 hM, kma_55 hM, kma_56 hM, kma_51 hM, hle, e2]
        have hc : (nI j = 0 ∨ nI j = 2) ↔ nI (j % 2) = 0 := by
          have : j = 0 ∨ j = 1 ∨ j = 2 ∨ j = 3 := by omega
          rcases this with rfl | rfl | rfl | rfl <;> decide
        refine ⟨fun z => ⟨by decide, fun y => ?_, fun y => ?_⟩, fun z => hA (Int32.not_le.mp z)⟩
        · have hT2 := hB (Int32.not_lt.mpr z)
          rw [if_neg (fun q => y (hc.mp q))] at hT2
          exact hT2
        · have hT2 := hB (Int32.not_lt.mpr z)
          rw [if_pos (hc.mpr y)] at hT2
          exact hT2
      | succ m ih =>
        intro k hk x5
        have h2 := ih (k + 1) (by omega)
        rw [mBd_s] at h2
        have hlt : ¬ (57600 : Int32) ≤ nI k := fun z => absurd ((nI_leI (a := 57600) (by omega) (by omega)).mp z) (by omega)
        have hvi : vp_in (nI k) 57600 := vp_in_nI (by omega) (by decide)
        generalize mBd h w k = b at h2 ⊢
        obtain ⟨lo, hi⟩ := b
        by_cases c2 : h 38 k = 0
        · rw [if_pos c2] at h2
          have h9 := h95n lo hi (nI k) x5 (by rw [nI_1]; exact h2 x5)
          refine H24 60 _ _ _ _ _ _ ?_
          simp only [sg_X7_bounds_0, sg_X7_bounds_13, sg_X7_bounds_24, sg_X7_bounds_58, sg_X7_bounds_67, sg_X7_bounds_80, sg_X7_bounds_81, sg_X7_bounds_93, sg_X7_bounds_94, sg_X7_bounds_95, sg_X7_bounds_101, sg_X7_bounds_112, sg_X7_bounds_122, sg_X7_bounds_123, cd_X7_bounds, jwp, o_ic, o_lc, o_iload, o_lload, o_aload, o_istore, o_lstore, o_astore, o_iinc, o_pop, o_dup, o_dup2, o_iadd, o_isub, o_imul, o_iand, o_ior, o_ishl, o_ladd, o_lmul, o_land, o_lor, o_idiv, o_irem, o_ineg, o_i2l, o_l2i, o_i2b, o_i2s, o_lushr, o_lshr, o_lshl, o_lcmp, o_ifeq, o_ifne, o_iflt, o_ifge, o_ifgt, o_ifle, o_iceq, o_icne, o_iclt, o_icge, o_icgt, o_icle, o_goto, o_tsw, jsw, o_lsw, jlk, o_getf, o_putf, o_putz, o_iald, o_zald, o_iast, o_zast, o_aald, o_alen, o_gets, o_zld, o_zlen, o_cpy, o_call, o_callV, o_ireti, o_iretz, o_lret, o_vret, jg, js, jkp, jkill, jsp, jcs, jfw, jov, Value.category, Option.toList_some, Option.toList_none, List.nil_append, List.cons_append, List.append_nil, Nat.reduceAdd, true_and, and_true, jb0, jb01, jb1, jem, true_or, or_true, Classical.not_not, forall_const, List.length_cons, List.length_nil, Nat.reduceLeDiff, Nat.zero_le, Nat.reduceLT, and_self, not_true_eq_false, not_false_eq_true, false_imp_iff, true_imp_iff, implies_true, and_false, false_and, or_false, false_or, hM, km_37_0 hM, km_37_1 hM, km_37_2 hM, km_37_3 hM, km_37_4 hM, km_37_5 hM, km_37_6 hM, km_37_7 hM, km_37_8 hM, km_37_9 hM, km_37_10 hM, km_37_11 hM, km_37_12 hM, km_37_13 hM, km_37_14 hM, km_37_15 hM, km_37_16 hM, km_37_17 hM, km_37_18 hM, km_37_19 hM, km_37_20 hM, km_37_21 hM, km_37_22 hM, km_37_23 hM, km_37_24 hM, km_37_25 hM, km_37_26 hM, km_37_27 hM, km_37_28 hM, km_37_29 hM, km_37_30 hM, km_37_31 hM, km_37_32 hM, kmo_37 hM, kma_38 hM, kma_39 hM, kma_40 hM, kma_41 hM, kma_42 hM, kma_43 hM, kma_44 hM, kma_45 hM, kma_46 hM, kma_47 hM, kma_48 hM, kma_49 hM, kma_50 hM, kma_52 hM, kma_53 hM, kma_54 hM, kma_55 hM, kma_56 hM, kma_51 hM, hlt, hvi, c2, nI_clamp (show k < 2147483648 by omega)]
          exact h9
        · rw [if_neg c2] at h2
          have h9 := h67 lo hi (nI k) (mBc w k) x5 (h95 _ _ _ _ (by rw [nI_1]; exact h2 _))
          refine H24 60 _ _ _ _ _ _ ?_
          simp only [sg_X7_bounds_0, sg_X7_bounds_13, sg_X7_bounds_24, sg_X7_bounds_58, sg_X7_bounds_67, sg_X7_bounds_80, sg_X7_bounds_81, sg_X7_bounds_93, sg_X7_bounds_94, sg_X7_bounds_95, sg_X7_bounds_101, sg_X7_bounds_112, sg_X7_bounds_122, sg_X7_bounds_123, cd_X7_bounds, jwp, o_ic, o_lc, o_iload, o_lload, o_aload, o_istore, o_lstore, o_astore, o_iinc, o_pop, o_dup, o_dup2, o_iadd, o_isub, o_imul, o_iand, o_ior, o_ishl, o_ladd, o_lmul, o_land, o_lor, o_idiv, o_irem, o_ineg, o_i2l, o_l2i, o_i2b, o_i2s, o_lushr, o_lshr, o_lshl, o_lcmp, o_ifeq, o_ifne, o_iflt, o_ifge, o_ifgt, o_ifle, o_iceq, o_icne, o_iclt, o_icge, o_icgt, o_icle, o_goto, o_tsw, jsw, o_lsw, jlk, o_getf, o_putf, o_putz, o_iald, o_zald, o_iast, o_zast, o_aald, o_alen, o_gets, o_zld, o_zlen, o_cpy, o_call, o_callV, o_ireti, o_iretz, o_lret, o_vret, jg, js, jkp, jkill, jsp, jcs, jfw, jov, Value.category, Option.toList_some, Option.toList_none, List.nil_append, List.cons_append, List.append_nil, Nat.reduceAdd, true_and, and_true, jb0, jb01, jb1, jem, true_or, or_true, Classical.not_not, forall_const, List.length_cons, List.length_nil, Nat.reduceLeDiff, Nat.zero_le, Nat.reduceLT, and_self, not_true_eq_false, not_false_eq_true, false_imp_iff, true_imp_iff, implies_true, and_false, false_and, or_false, false_or, hM, km_37_0 hM, km_37_1 hM, km_37_2 hM, km_37_3 hM, km_37_4 hM, km_37_5 hM, km_37_6 hM, km_37_7 hM, km_37_8 hM, km_37_9 hM, km_37_10 hM, km_37_11 hM, km_37_12 hM, km_37_13 hM, km_37_14 hM, km_37_15 hM, km_37_16 hM, km_37_17 hM, km_37_18 hM, km_37_19 hM, km_37_20 hM, km_37_21 hM, km_37_22 hM, km_37_23 hM, km_37_24 hM, km_37_25 hM, km_37_26 hM, km_37_27 hM, km_37_28 hM, km_37_29 hM, km_37_30 hM, km_37_31 hM, km_37_32 hM, kmo_37 hM, kma_38 hM, kma_39 hM, kma_40 hM, kma_41 hM, kma_42 hM, kma_43 hM, kma_44 hM, kma_45 hM, kma_46 hM, kma_47 hM, kma_48 hM, kma_49 hM, kma_50 hM, kma_52 hM, kma_53 hM, kma_54 hM, kma_55 hM, kma_56 hM, kma_51 hM, hlt, hvi, c2, nI_clamp (show k < 2147483648 by omega)]
          refine ⟨fun z => ⟨by decide, ?_⟩, fun z => ⟨by decide, ?_⟩⟩
          · have e : mBc w k = nI k / 240 - 120 := by
              unfold mBc
              rw [if_neg (Int32.not_lt.mpr z), show (240 : Int32) = nI 240 from rfl, jdiv (by omega) (by decide) (by decide)]
            rw [← e]
            exact h9
          · have e : mBc w k = nI k - nI k / 240 * 240 - 120 := by
              unfold mBc
              rw [if_pos (Int32.not_le.mp z), show (240 : Int32) = nI 240 from rfl, jrem (by omega) (by decide) (by decide)]
            rw [← e]
            exact h9
    refine H0 60 _ _ _ _ _ _ ?_
    simp only [sg_X7_bounds_0, sg_X7_bounds_13, sg_X7_bounds_24, sg_X7_bounds_58, sg_X7_bounds_67, sg_X7_bounds_80, sg_X7_bounds_81, sg_X7_bounds_93, sg_X7_bounds_94, sg_X7_bounds_95, sg_X7_bounds_101, sg_X7_bounds_112, sg_X7_bounds_122, sg_X7_bounds_123, cd_X7_bounds, jwp, o_ic, o_lc, o_iload, o_lload, o_aload, o_istore, o_lstore, o_astore, o_iinc, o_pop, o_dup, o_dup2, o_iadd, o_isub, o_imul, o_iand, o_ior, o_ishl, o_ladd, o_lmul, o_land, o_lor, o_idiv, o_irem, o_ineg, o_i2l, o_l2i, o_i2b, o_i2s, o_lushr, o_lshr, o_lshl, o_lcmp, o_ifeq, o_ifne, o_iflt, o_ifge, o_ifgt, o_ifle, o_iceq, o_icne, o_iclt, o_icge, o_icgt, o_icle, o_goto, o_tsw, jsw, o_lsw, jlk, o_getf, o_putf, o_putz, o_iald, o_zald, o_iast, o_zast, o_aald, o_alen, o_gets, o_zld, o_zlen, o_cpy, o_call, o_callV, o_ireti, o_iretz, o_lret, o_vret, jg, js, jkp, jkill, jsp, jcs, jfw, jov, Value.category, Option.toList_some, Option.toList_none, List.nil_append, List.cons_append, List.append_nil, Nat.reduceAdd, true_and, and_true, jb0, jb01, jb1, jem, true_or, or_true, Classical.not_not, forall_const, List.length_cons, List.length_nil, Nat.reduceLeDiff, Nat.zero_le, Nat.reduceLT, and_self, not_true_eq_false, not_false_eq_true, false_imp_iff, true_imp_iff, implies_true, and_false, false_and, or_false, false_or, hM, km_37_0 hM, km_37_1 hM, km_37_2 hM, km_37_3 hM, km_37_4 hM, km_37_5 hM, km_37_6 hM, km_37_7 hM, km_37_8 hM, km_37_9 hM, km_37_10 hM, km_37_11 hM, km_37_12 hM, km_37_13 hM, km_37_14 hM, km_37_15 hM, km_37_16 hM, km_37_17 hM, km_37_18 hM, km_37_19 hM, km_37_20 hM, km_37_21 hM, km_37_22 hM, km_37_23 hM, km_37_24 hM, km_37_25 hM, km_37_26 hM, km_37_27 hM, km_37_28 hM, km_37_29 hM, km_37_30 hM, km_37_31 hM, km_37_32 hM, kmo_37 hM, kma_38 hM, kma_39 hM, kma_40 hM, kma_41 hM, kma_42 hM, kma_43 hM, kma_44 hM, kma_45 hM, kma_46 hM, kma_47 hM, kma_48 hM, kma_49 hM, kma_50 hM, kma_52 hM, kma_53 hM, kma_54 hM, kma_55 hM, kma_56 hM, kma_51 hM, T_X7_in, c1]
    exact loop 57600 0 (by omega) none
  · have hT0 := hT0 c1
    refine H0 60 _ _ _ _ _ _ ?_
    simp only [sg_X7_bounds_0, sg_X7_bounds_13, sg_X7_bounds_24, sg_X7_bounds_58, sg_X7_bounds_67, sg_X7_bounds_80, sg_X7_bounds_81, sg_X7_bounds_93, sg_X7_bounds_94, sg_X7_bounds_95, sg_X7_bounds_101, sg_X7_bounds_112, sg_X7_bounds_122, sg_X7_bounds_123, cd_X7_bounds, jwp, o_ic, o_lc, o_iload, o_lload, o_aload, o_istore, o_lstore, o_astore, o_iinc, o_pop, o_dup, o_dup2, o_iadd, o_isub, o_imul, o_iand, o_ior, o_ishl, o_ladd, o_lmul, o_land, o_lor, o_idiv, o_irem, o_ineg, o_i2l, o_l2i, o_i2b, o_i2s, o_lushr, o_lshr, o_lshl, o_lcmp, o_ifeq, o_ifne, o_iflt, o_ifge, o_ifgt, o_ifle, o_iceq, o_icne, o_iclt, o_icge, o_icgt, o_icle, o_goto, o_tsw, jsw, o_lsw, jlk, o_getf, o_putf, o_putz, o_iald, o_zald, o_iast, o_zast, o_aald, o_alen, o_gets, o_zld, o_zlen, o_cpy, o_call, o_callV, o_ireti, o_iretz, o_lret, o_vret, jg, js, jkp, jkill, jsp, jcs, jfw, jov, Value.category, Option.toList_some, Option.toList_none, List.nil_append, List.cons_append, List.append_nil, Nat.reduceAdd, true_and, and_true, jb0, jb01, jb1, jem, true_or, or_true, Classical.not_not, forall_const, List.length_cons, List.length_nil, Nat.reduceLeDiff, Nat.zero_le, Nat.reduceLT, and_self, not_true_eq_false, not_false_eq_true, false_imp_iff, true_imp_iff, implies_true, and_false, false_and, or_false, false_or, hM, km_37_0 hM, km_37_1 hM, km_37_2 hM, km_37_3 hM, km_37_4 hM, km_37_5 hM, km_37_6 hM, km_37_7 hM, km_37_8 hM, km_37_9 hM, km_37_10 hM, km_37_11 hM, km_37_12 hM, km_37_13 hM, km_37_14 hM, km_37_15 hM, km_37_16 hM, km_37_17 hM, km_37_18 hM, km_37_19 hM, km_37_20 hM, km_37_21 hM, km_37_22 hM, km_37_23 hM, km_37_24 hM, km_37_25 hM, km_37_26 hM, km_37_27 hM, km_37_28 hM, km_37_29 hM, km_37_30 hM, km_37_31 hM, km_37_32 hM, kmo_37 hM, kma_38 hM, kma_39 hM, kma_40 hM, kma_41 hM, kma_42 hM, kma_43 hM, kma_44 hM, kma_45 hM, kma_46 hM, kma_47 hM, kma_48 hM, kma_49 hM, kma_50 hM, kma_52 hM, kma_53 hM, kma_54 hM, kma_55 hM, kma_56 hM, kma_51 hM, T_X7_in, c1]
    exact hT0
theorem m_X7_bounds (l : Launch) : jHolds vwCl l yX7_bounds wsX7_bounds 1 22 0 0 T_X7_bounds := by
  refine m_X7_bounds_of l (fun G Q vs K h H0 H24 H67 H95 hT => ?_)
  unfold T_X7_bounds at hT
  split at hT
  · obtain ⟨rfl, hT⟩ := hT
    exact ⟨Nat.le_of_ble_eq_true rfl, v_X7_bounds hT H0 H24 H67 H95⟩
  · exact hT.elim
