/-! X7_copy -/
/-! ===== copies of the reference ===== -/
def mCp1 (h : jM) (b : Nat) : Nat → jM
  | 0 => h
  | k + 1 => up2 (mCp1 h b k) 56 k (h 55 (b + k))
theorem mCp1_s (h : jM) (b k : Nat) : mCp1 h b (k + 1) = up2 (mCp1 h b k) 56 k (h 55 (b + k)) := rfl
theorem mCp1_o (h : jM) (b : Nat) : ∀ (k : Nat) {c : Nat}, ¬ c = 56 → mCp1 h b k c = h c
  | 0, _, _ => rfl
  | k + 1, c, hc => by rw [mCp1_s, up2_n hc]; exact mCp1_o h b k hc
def mCq (g : jM) (b : Nat) : Nat → jM
  | 0 => g
  | k + 1 => up2 (mCq g b k) 55 (b + k) (g 56 k)
theorem mCq_s (g : jM) (b k : Nat) : mCq g b (k + 1) = up2 (mCq g b k) 55 (b + k) (g 56 k) := rfl
theorem mCq_o (g : jM) (b : Nat) : ∀ (k : Nat) {c : Nat}, ¬ c = 55 → mCq g b k c = g c
  | 0, _, _ => rfl
  | k + 1, c, hc => by rw [mCq_s, up2_n hc]; exact mCq_o g b k hc
def T_X7_copy : jT := fun vs K h Q => match vs with
  | [.ref r0, .int s, .int i, .int t, .int j, .int n] => r0 = 37 ∧ (jXM K ∧ (¬ ((0 ≤ s ∧ s ≤ 3) ∧ (0 ≤ t ∧ t ≤ 3)) → Q (some (.int (-1))) K h) ∧ ((0 ≤ s ∧ s ≤ 3) ∧ (0 ≤ t ∧ t ≤ 3) → (0 ≤ (h 54 s.toNatClampNeg).toInt ∧ (h 54 s.toNatClampNeg).toInt ≤ 60) ∧ (0 ≤ (h 54 t.toNatClampNeg).toInt ∧ (h 54 t.toNatClampNeg).toInt ≤ 60) ∧ ((h 53 s.toNatClampNeg < 0 ∨ h 53 t.toNatClampNeg < 0) → Q (some (.int (-11))) K h) ∧ (¬ (h 53 s.toNatClampNeg < 0 ∨ h 53 t.toNatClampNeg < 0) → (¬ h 53 s.toNatClampNeg = h 53 t.toNatClampNeg → Q (some (.int (-12))) K h) ∧ (h 53 s.toNatClampNeg = h 53 t.toNatClampNeg → (¬ (¬ n < 0 ∧ (¬ i < 0 ∧ i.toInt + n.toInt ≤ (h 54 s.toNatClampNeg).toInt) ∧ (¬ j < 0 ∧ j.toInt + n.toInt ≤ (h 54 t.toNatClampNeg).toInt)) → Q (some (.int (-13))) K h) ∧ ((¬ n < 0 ∧ (¬ i < 0 ∧ i.toInt + n.toInt ≤ (h 54 s.toNatClampNeg).toInt) ∧ (¬ j < 0 ∧ j.toInt + n.toInt ≤ (h 54 t.toNatClampNeg).toInt)) → Q (some (.int n)) K (mCq (mCp1 h (60 * s.toNatClampNeg + i.toNatClampNeg) n.toNatClampNeg) (60 * t.toNatClampNeg + j.toNatClampNeg) n.toNatClampNeg))))))
  | _ => False
def sg_X7_copy_0 : jS := [(o_iload 1, 1), (o_call 1 T_X7_isSheet, 3), (o_ifeq 14, 3), (o_iload 3, 1), (o_call 1 T_X7_isSheet, 3), (o_ifne 16, 3), (o_ic (-1), 1), (o_ireti, 1)]
def sg_X7_copy_14 : jS := [(o_ic (-1), 1), (o_ireti, 1)]
def sg_X7_copy_16 : jS := [(o_aload 0, 1), (o_getf 7 29, 3), (o_iload 1, 1), (o_iald, 1), (o_iflt 34, 3), (o_aload 0, 1), (o_getf 7 29, 3), (o_iload 3, 1), (o_iald, 1), (o_ifge 37, 3), (o_ic (-11), 2), (o_ireti, 1)]
def sg_X7_copy_34 : jS := [(o_ic (-11), 2), (o_ireti, 1)]
def sg_X7_copy_37 : jS := [(o_aload 0, 1), (o_getf 7 29, 3), (o_iload 1, 1), (o_iald, 1), (o_aload 0, 1), (o_getf 7 29, 3), (o_iload 3, 1), (o_iald, 1), (o_iceq 55, 3), (o_ic (-12), 2), (o_ireti, 1)]
def sg_X7_copy_55 : jS := [(o_iload 5, 2), (o_iflt 83, 3), (o_aload 0, 1), (o_iload 1, 1), (o_iload 2, 1), (o_iload 5, 2), (o_callV 4 7 T_X7_isWithin, 3), (o_ifeq 83, 3), (o_aload 0, 1), (o_iload 3, 1), (o_iload 4, 2), (o_iload 5, 2), (o_callV 4 7 T_X7_isWithin, 3), (o_ifne 86, 3), (o_ic (-13), 2), (o_ireti, 1)]
def sg_X7_copy_83 : jS := [(o_ic (-13), 2), (o_ireti, 1)]
def sg_X7_copy_86 : jS := [(o_ic (0), 1), (o_istore 6, 2)]
def sg_X7_copy_89 : jS := [(o_iload 6, 2), (o_iload 5, 2), (o_icge 123, 3), (o_aload 0, 1), (o_getf 7 32, 3), (o_iload 6, 2), (o_aload 0, 1), (o_getf 7 31, 3), (o_ic (60), 2), (o_iload 1, 1), (o_imul, 1), (o_iload 2, 1), (o_iadd, 1), (o_iload 6, 2), (o_iadd, 1), (o_iald, 1), (o_iast, 1), (o_iinc 6 (1), 3), (o_goto 89, 3)]
def sg_X7_copy_123 : jS := [(o_ic (0), 1), (o_istore 6, 2)]
def sg_X7_copy_126 : jS := [(o_iload 6, 2), (o_iload 5, 2), (o_icge 161, 3), (o_aload 0, 1), (o_getf 7 31, 3), (o_ic (60), 2), (o_iload 3, 1), (o_imul, 1), (o_iload 4, 2), (o_iadd, 1), (o_iload 6, 2), (o_iadd, 1), (o_aload 0, 1), (o_getf 7 32, 3), (o_iload 6, 2), (o_iald, 1), (o_iast, 1), (o_iinc 6 (1), 3), (o_goto 126, 3)]
def sg_X7_copy_161 : jS := [(o_iload 5, 2), (o_ireti, 1)]
def cd_X7_copy : Nat → jS := fun t => match t with
  | 14 => sg_X7_copy_14
  | 16 => sg_X7_copy_16
  | 34 => sg_X7_copy_34
  | 37 => sg_X7_copy_37
  | 55 => sg_X7_copy_55
  | 83 => sg_X7_copy_83
  | 86 => sg_X7_copy_86
  | 123 => sg_X7_copy_123
  | 161 => sg_X7_copy_161
  | _ => []
theorem wl_X7_copy_61 : Cond.fieldLink RX7 61 (TX7 29).1 (TX7 29).2.1 (TX7 29).2.2.1 ∈ wsX7_copy := by decide +kernel
theorem wl_X7_copy_67 : Cond.fieldLink RX7 67 (TX7 31).1 (TX7 31).2.1 (TX7 31).2.2.1 ∈ wsX7_copy := by decide +kernel
theorem wl_X7_copy_70 : Cond.fieldLink RX7 70 (TX7 32).1 (TX7 32).2.1 (TX7 32).2.2.1 ∈ wsX7_copy := by decide +kernel
theorem wi_X7_copy_X7 : ∀ w ∈ u_ws RX7 TX7 33, w ∈ wsX7_copy := by decide +kernel
def E_X7_copy (Γ : jΓ) (Q : jPost) : Prop := Γ.2.2.2.2.2.2.2.2.2.2.1 = 7 ∧ Γ.2.2.2.2.2.2.2.2.2.2.2.1 = vwCl ∧ jC Γ cX7_copy RX7 "copy" (some .int) wsX7_copy 2 42 0 0 ∧ jR Γ Q 0 0
theorem oo_X7_copy_0 {Γ : jΓ} {Q : jPost} (E : E_X7_copy Γ Q) : jSA Γ Q 0 (o_iload 1) 1 := so_iload_n E.2.2.1 rfl dX7_copy_0
theorem oo_X7_copy_1 {Γ : jΓ} {Q : jPost} (E : E_X7_copy Γ Q) : jSA Γ Q 1 (o_call 1 T_X7_isSheet) 3 := so_callS E.2.2.1 gX7_copy_X7_isSheet (by decide +kernel) rfl (by rw [E.2.1]; exact m_X7_isSheet _) (by decide) (by decide) dX7_copy_1
theorem oo_X7_copy_4 {Γ : jΓ} {Q : jPost} (E : E_X7_copy Γ Q) : jSA Γ Q 4 (o_ifeq 14) 3 := so_ifeq E.2.2.1 (by decide) dX7_copy_4
theorem oo_X7_copy_7 {Γ : jΓ} {Q : jPost} (E : E_X7_copy Γ Q) : jSA Γ Q 7 (o_iload 3) 1 := so_iload_n E.2.2.1 rfl dX7_copy_7
theorem oo_X7_copy_8 {Γ : jΓ} {Q : jPost} (E : E_X7_copy Γ Q) : jSA Γ Q 8 (o_call 1 T_X7_isSheet) 3 := so_callS E.2.2.1 gX7_copy_X7_isSheet (by decide +kernel) rfl (by rw [E.2.1]; exact m_X7_isSheet _) (by decide) (by decide) dX7_copy_8
theorem oo_X7_copy_11 {Γ : jΓ} {Q : jPost} (E : E_X7_copy Γ Q) : jSA Γ Q 11 (o_ifne 16) 3 := so_ifne E.2.2.1 (by decide) dX7_copy_11
theorem oo_X7_copy_14 {Γ : jΓ} {Q : jPost} (E : E_X7_copy Γ Q) : jSA Γ Q 14 (o_ic (-1)) 1 := so_iconst E.2.2.1 rfl dX7_copy_14
theorem oo_X7_copy_15 {Γ : jΓ} {Q : jPost} (E : E_X7_copy Γ Q) : jSA Γ Q 15 (o_ireti) 1 := so_ireti E.2.2.1 E.2.2.2 dX7_copy_15
theorem oo_X7_copy_16 {Γ : jΓ} {Q : jPost} (E : E_X7_copy Γ Q) : jSA Γ Q 16 (o_aload 0) 1 := so_aload_n E.2.2.1 rfl dX7_copy_16
theorem oo_X7_copy_17 {Γ : jΓ} {Q : jPost} (E : E_X7_copy Γ Q) : jSA Γ Q 17 (o_getf 7 29) 3 := so_getf (ci := 7) E.2.2.1 wi_X7_copy_X7 (by rw [E.2.1]; rfl) 29 (by decide) wl_X7_copy_61 dX7_copy_17
theorem oo_X7_copy_20 {Γ : jΓ} {Q : jPost} (E : E_X7_copy Γ Q) : jSA Γ Q 20 (o_iload 1) 1 := so_iload_n E.2.2.1 rfl dX7_copy_20
theorem oo_X7_copy_21 {Γ : jΓ} {Q : jPost} (E : E_X7_copy Γ Q) : jSA Γ Q 21 (o_iald) 1 := so_iald E.2.2.1 dX7_copy_21
theorem oo_X7_copy_22 {Γ : jΓ} {Q : jPost} (E : E_X7_copy Γ Q) : jSA Γ Q 22 (o_iflt 34) 3 := so_iflt E.2.2.1 (by decide) dX7_copy_22
theorem oo_X7_copy_25 {Γ : jΓ} {Q : jPost} (E : E_X7_copy Γ Q) : jSA Γ Q 25 (o_aload 0) 1 := so_aload_n E.2.2.1 rfl dX7_copy_25
theorem oo_X7_copy_26 {Γ : jΓ} {Q : jPost} (E : E_X7_copy Γ Q) : jSA Γ Q 26 (o_getf 7 29) 3 := so_getf (ci := 7) E.2.2.1 wi_X7_copy_X7 (by rw [E.2.1]; rfl) 29 (by decide) wl_X7_copy_61 dX7_copy_26
theorem oo_X7_copy_29 {Γ : jΓ} {Q : jPost} (E : E_X7_copy Γ Q) : jSA Γ Q 29 (o_iload 3) 1 := so_iload_n E.2.2.1 rfl dX7_copy_29
theorem oo_X7_copy_30 {Γ : jΓ} {Q : jPost} (E : E_X7_copy Γ Q) : jSA Γ Q 30 (o_iald) 1 := so_iald E.2.2.1 dX7_copy_30
theorem oo_X7_copy_31 {Γ : jΓ} {Q : jPost} (E : E_X7_copy Γ Q) : jSA Γ Q 31 (o_ifge 37) 3 := so_ifge E.2.2.1 (by decide) dX7_copy_31
theorem oo_X7_copy_34 {Γ : jΓ} {Q : jPost} (E : E_X7_copy Γ Q) : jSA Γ Q 34 (o_ic (-11)) 2 := so_bipush E.2.2.1 rfl dX7_copy_34
theorem oo_X7_copy_36 {Γ : jΓ} {Q : jPost} (E : E_X7_copy Γ Q) : jSA Γ Q 36 (o_ireti) 1 := so_ireti E.2.2.1 E.2.2.2 dX7_copy_36
theorem oo_X7_copy_37 {Γ : jΓ} {Q : jPost} (E : E_X7_copy Γ Q) : jSA Γ Q 37 (o_aload 0) 1 := so_aload_n E.2.2.1 rfl dX7_copy_37
theorem oo_X7_copy_38 {Γ : jΓ} {Q : jPost} (E : E_X7_copy Γ Q) : jSA Γ Q 38 (o_getf 7 29) 3 := so_getf (ci := 7) E.2.2.1 wi_X7_copy_X7 (by rw [E.2.1]; rfl) 29 (by decide) wl_X7_copy_61 dX7_copy_38
theorem oo_X7_copy_41 {Γ : jΓ} {Q : jPost} (E : E_X7_copy Γ Q) : jSA Γ Q 41 (o_iload 1) 1 := so_iload_n E.2.2.1 rfl dX7_copy_41
theorem oo_X7_copy_42 {Γ : jΓ} {Q : jPost} (E : E_X7_copy Γ Q) : jSA Γ Q 42 (o_iald) 1 := so_iald E.2.2.1 dX7_copy_42
theorem oo_X7_copy_43 {Γ : jΓ} {Q : jPost} (E : E_X7_copy Γ Q) : jSA Γ Q 43 (o_aload 0) 1 := so_aload_n E.2.2.1 rfl dX7_copy_43
theorem oo_X7_copy_44 {Γ : jΓ} {Q : jPost} (E : E_X7_copy Γ Q) : jSA Γ Q 44 (o_getf 7 29) 3 := so_getf (ci := 7) E.2.2.1 wi_X7_copy_X7 (by rw [E.2.1]; rfl) 29 (by decide) wl_X7_copy_61 dX7_copy_44
theorem oo_X7_copy_47 {Γ : jΓ} {Q : jPost} (E : E_X7_copy Γ Q) : jSA Γ Q 47 (o_iload 3) 1 := so_iload_n E.2.2.1 rfl dX7_copy_47
theorem oo_X7_copy_48 {Γ : jΓ} {Q : jPost} (E : E_X7_copy Γ Q) : jSA Γ Q 48 (o_iald) 1 := so_iald E.2.2.1 dX7_copy_48
theorem oo_X7_copy_49 {Γ : jΓ} {Q : jPost} (E : E_X7_copy Γ Q) : jSA Γ Q 49 (o_iceq 55) 3 := so_iceq E.2.2.1 (by decide) dX7_copy_49
theorem oo_X7_copy_52 {Γ : jΓ} {Q : jPost} (E : E_X7_copy Γ Q) : jSA Γ Q 52 (o_ic (-12)) 2 := so_bipush E.2.2.1 rfl dX7_copy_52
theorem oo_X7_copy_54 {Γ : jΓ} {Q : jPost} (E : E_X7_copy Γ Q) : jSA Γ Q 54 (o_ireti) 1 := so_ireti E.2.2.1 E.2.2.2 dX7_copy_54
theorem oo_X7_copy_55 {Γ : jΓ} {Q : jPost} (E : E_X7_copy Γ Q) : jSA Γ Q 55 (o_iload 5) 2 := so_iload E.2.2.1 dX7_copy_55
theorem oo_X7_copy_57 {Γ : jΓ} {Q : jPost} (E : E_X7_copy Γ Q) : jSA Γ Q 57 (o_iflt 83) 3 := so_iflt E.2.2.1 (by decide) dX7_copy_57
theorem oo_X7_copy_60 {Γ : jΓ} {Q : jPost} (E : E_X7_copy Γ Q) : jSA Γ Q 60 (o_aload 0) 1 := so_aload_n E.2.2.1 rfl dX7_copy_60
theorem oo_X7_copy_61 {Γ : jΓ} {Q : jPost} (E : E_X7_copy Γ Q) : jSA Γ Q 61 (o_iload 1) 1 := so_iload_n E.2.2.1 rfl dX7_copy_61
theorem oo_X7_copy_62 {Γ : jΓ} {Q : jPost} (E : E_X7_copy Γ Q) : jSA Γ Q 62 (o_iload 2) 1 := so_iload_n E.2.2.1 rfl dX7_copy_62
theorem oo_X7_copy_63 {Γ : jΓ} {Q : jPost} (E : E_X7_copy Γ Q) : jSA Γ Q 63 (o_iload 5) 2 := so_iload E.2.2.1 dX7_copy_63
theorem oo_X7_copy_65 {Γ : jΓ} {Q : jPost} (E : E_X7_copy Γ Q) : jSA Γ Q 65 (o_callV 4 7 T_X7_isWithin) 3 := so_callV E.2.2.1 (ci := 7) (by rw [E.2.1]; rfl) gX7_copy_X7_isWithin (by decide +kernel) rfl (by rw [E.2.1]; exact m_X7_isWithin _) (by decide) (by decide) dX7_copy_65
theorem oo_X7_copy_68 {Γ : jΓ} {Q : jPost} (E : E_X7_copy Γ Q) : jSA Γ Q 68 (o_ifeq 83) 3 := so_ifeq E.2.2.1 (by decide) dX7_copy_68
theorem oo_X7_copy_71 {Γ : jΓ} {Q : jPost} (E : E_X7_copy Γ Q) : jSA Γ Q 71 (o_aload 0) 1 := so_aload_n E.2.2.1 rfl dX7_copy_71
theorem oo_X7_copy_72 {Γ : jΓ} {Q : jPost} (E : E_X7_copy Γ Q) : jSA Γ Q 72 (o_iload 3) 1 := so_iload_n E.2.2.1 rfl dX7_copy_72
theorem oo_X7_copy_73 {Γ : jΓ} {Q : jPost} (E : E_X7_copy Γ Q) : jSA Γ Q 73 (o_iload 4) 2 := so_iload E.2.2.1 dX7_copy_73
theorem oo_X7_copy_75 {Γ : jΓ} {Q : jPost} (E : E_X7_copy Γ Q) : jSA Γ Q 75 (o_iload 5) 2 := so_iload E.2.2.1 dX7_copy_75
theorem oo_X7_copy_77 {Γ : jΓ} {Q : jPost} (E : E_X7_copy Γ Q) : jSA Γ Q 77 (o_callV 4 7 T_X7_isWithin) 3 := so_callV E.2.2.1 (ci := 7) (by rw [E.2.1]; rfl) gX7_copy_X7_isWithin (by decide +kernel) rfl (by rw [E.2.1]; exact m_X7_isWithin _) (by decide) (by decide) dX7_copy_77
theorem oo_X7_copy_80 {Γ : jΓ} {Q : jPost} (E : E_X7_copy Γ Q) : jSA Γ Q 80 (o_ifne 86) 3 := so_ifne E.2.2.1 (by decide) dX7_copy_80
theorem oo_X7_copy_83 {Γ : jΓ} {Q : jPost} (E : E_X7_copy Γ Q) : jSA Γ Q 83 (o_ic (-13)) 2 := so_bipush E.2.2.1 rfl dX7_copy_83
theorem oo_X7_copy_85 {Γ : jΓ} {Q : jPost} (E : E_X7_copy Γ Q) : jSA Γ Q 85 (o_ireti) 1 := so_ireti E.2.2.1 E.2.2.2 dX7_copy_85
theorem oo_X7_copy_86 {Γ : jΓ} {Q : jPost} (E : E_X7_copy Γ Q) : jSA Γ Q 86 (o_ic (0)) 1 := so_iconst E.2.2.1 rfl dX7_copy_86
theorem oo_X7_copy_87 {Γ : jΓ} {Q : jPost} (E : E_X7_copy Γ Q) : jSA Γ Q 87 (o_istore 6) 2 := so_istore E.2.2.1 (by rw [E.1]; decide) dX7_copy_87
theorem oo_X7_copy_89 {Γ : jΓ} {Q : jPost} (E : E_X7_copy Γ Q) : jSA Γ Q 89 (o_iload 6) 2 := so_iload E.2.2.1 dX7_copy_89
theorem oo_X7_copy_91 {Γ : jΓ} {Q : jPost} (E : E_X7_copy Γ Q) : jSA Γ Q 91 (o_iload 5) 2 := so_iload E.2.2.1 dX7_copy_91
theorem oo_X7_copy_93 {Γ : jΓ} {Q : jPost} (E : E_X7_copy Γ Q) : jSA Γ Q 93 (o_icge 123) 3 := so_icge E.2.2.1 (by decide) dX7_copy_93
theorem oo_X7_copy_96 {Γ : jΓ} {Q : jPost} (E : E_X7_copy Γ Q) : jSA Γ Q 96 (o_aload 0) 1 := so_aload_n E.2.2.1 rfl dX7_copy_96
theorem oo_X7_copy_97 {Γ : jΓ} {Q : jPost} (E : E_X7_copy Γ Q) : jSA Γ Q 97 (o_getf 7 32) 3 := so_getf (ci := 7) E.2.2.1 wi_X7_copy_X7 (by rw [E.2.1]; rfl) 32 (by decide) wl_X7_copy_70 dX7_copy_97
theorem oo_X7_copy_100 {Γ : jΓ} {Q : jPost} (E : E_X7_copy Γ Q) : jSA Γ Q 100 (o_iload 6) 2 := so_iload E.2.2.1 dX7_copy_100
theorem oo_X7_copy_102 {Γ : jΓ} {Q : jPost} (E : E_X7_copy Γ Q) : jSA Γ Q 102 (o_aload 0) 1 := so_aload_n E.2.2.1 rfl dX7_copy_102
theorem oo_X7_copy_103 {Γ : jΓ} {Q : jPost} (E : E_X7_copy Γ Q) : jSA Γ Q 103 (o_getf 7 31) 3 := so_getf (ci := 7) E.2.2.1 wi_X7_copy_X7 (by rw [E.2.1]; rfl) 31 (by decide) wl_X7_copy_67 dX7_copy_103
theorem oo_X7_copy_106 {Γ : jΓ} {Q : jPost} (E : E_X7_copy Γ Q) : jSA Γ Q 106 (o_ic (60)) 2 := so_bipush E.2.2.1 rfl dX7_copy_106
theorem oo_X7_copy_108 {Γ : jΓ} {Q : jPost} (E : E_X7_copy Γ Q) : jSA Γ Q 108 (o_iload 1) 1 := so_iload_n E.2.2.1 rfl dX7_copy_108
theorem oo_X7_copy_109 {Γ : jΓ} {Q : jPost} (E : E_X7_copy Γ Q) : jSA Γ Q 109 (o_imul) 1 := so_imul E.2.2.1 dX7_copy_109
theorem oo_X7_copy_110 {Γ : jΓ} {Q : jPost} (E : E_X7_copy Γ Q) : jSA Γ Q 110 (o_iload 2) 1 := so_iload_n E.2.2.1 rfl dX7_copy_110
theorem oo_X7_copy_111 {Γ : jΓ} {Q : jPost} (E : E_X7_copy Γ Q) : jSA Γ Q 111 (o_iadd) 1 := so_iadd E.2.2.1 dX7_copy_111
theorem oo_X7_copy_112 {Γ : jΓ} {Q : jPost} (E : E_X7_copy Γ Q) : jSA Γ Q 112 (o_iload 6) 2 := so_iload E.2.2.1 dX7_copy_112
theorem oo_X7_copy_114 {Γ : jΓ} {Q : jPost} (E : E_X7_copy Γ Q) : jSA Γ Q 114 (o_iadd) 1 := so_iadd E.2.2.1 dX7_copy_114
theorem oo_X7_copy_115 {Γ : jΓ} {Q : jPost} (E : E_X7_copy Γ Q) : jSA Γ Q 115 (o_iald) 1 := so_iald E.2.2.1 dX7_copy_115
theorem oo_X7_copy_116 {Γ : jΓ} {Q : jPost} (E : E_X7_copy Γ Q) : jSA Γ Q 116 (o_iast) 1 := so_iast E.2.2.1 dX7_copy_116
theorem oo_X7_copy_117 {Γ : jΓ} {Q : jPost} (E : E_X7_copy Γ Q) : jSA Γ Q 117 (o_iinc 6 (1)) 3 := so_iinc E.2.2.1 rfl (by rw [E.1]; decide) dX7_copy_117
theorem oo_X7_copy_120 {Γ : jΓ} {Q : jPost} (E : E_X7_copy Γ Q) : jSA Γ Q 120 (o_goto 89) 3 := so_goto E.2.2.1 (by decide) dX7_copy_120
theorem oo_X7_copy_123 {Γ : jΓ} {Q : jPost} (E : E_X7_copy Γ Q) : jSA Γ Q 123 (o_ic (0)) 1 := so_iconst E.2.2.1 rfl dX7_copy_123
theorem oo_X7_copy_124 {Γ : jΓ} {Q : jPost} (E : E_X7_copy Γ Q) : jSA Γ Q 124 (o_istore 6) 2 := so_istore E.2.2.1 (by rw [E.1]; decide) dX7_copy_124
theorem oo_X7_copy_126 {Γ : jΓ} {Q : jPost} (E : E_X7_copy Γ Q) : jSA Γ Q 126 (o_iload 6) 2 := so_iload E.2.2.1 dX7_copy_126
theorem oo_X7_copy_128 {Γ : jΓ} {Q : jPost} (E : E_X7_copy Γ Q) : jSA Γ Q 128 (o_iload 5) 2 := so_iload E.2.2.1 dX7_copy_128
theorem oo_X7_copy_130 {Γ : jΓ} {Q : jPost} (E : E_X7_copy Γ Q) : jSA Γ Q 130 (o_icge 161) 3 := so_icge E.2.2.1 (by decide) dX7_copy_130
theorem oo_X7_copy_133 {Γ : jΓ} {Q : jPost} (E : E_X7_copy Γ Q) : jSA Γ Q 133 (o_aload 0) 1 := so_aload_n E.2.2.1 rfl dX7_copy_133
theorem oo_X7_copy_134 {Γ : jΓ} {Q : jPost} (E : E_X7_copy Γ Q) : jSA Γ Q 134 (o_getf 7 31) 3 := so_getf (ci := 7) E.2.2.1 wi_X7_copy_X7 (by rw [E.2.1]; rfl) 31 (by decide) wl_X7_copy_67 dX7_copy_134
theorem oo_X7_copy_137 {Γ : jΓ} {Q : jPost} (E : E_X7_copy Γ Q) : jSA Γ Q 137 (o_ic (60)) 2 := so_bipush E.2.2.1 rfl dX7_copy_137
theorem oo_X7_copy_139 {Γ : jΓ} {Q : jPost} (E : E_X7_copy Γ Q) : jSA Γ Q 139 (o_iload 3) 1 := so_iload_n E.2.2.1 rfl dX7_copy_139
theorem oo_X7_copy_140 {Γ : jΓ} {Q : jPost} (E : E_X7_copy Γ Q) : jSA Γ Q 140 (o_imul) 1 := so_imul E.2.2.1 dX7_copy_140
theorem oo_X7_copy_141 {Γ : jΓ} {Q : jPost} (E : E_X7_copy Γ Q) : jSA Γ Q 141 (o_iload 4) 2 := so_iload E.2.2.1 dX7_copy_141
theorem oo_X7_copy_143 {Γ : jΓ} {Q : jPost} (E : E_X7_copy Γ Q) : jSA Γ Q 143 (o_iadd) 1 := so_iadd E.2.2.1 dX7_copy_143
theorem oo_X7_copy_144 {Γ : jΓ} {Q : jPost} (E : E_X7_copy Γ Q) : jSA Γ Q 144 (o_iload 6) 2 := so_iload E.2.2.1 dX7_copy_144
theorem oo_X7_copy_146 {Γ : jΓ} {Q : jPost} (E : E_X7_copy Γ Q) : jSA Γ Q 146 (o_iadd) 1 := so_iadd E.2.2.1 dX7_copy_146
theorem oo_X7_copy_147 {Γ : jΓ} {Q : jPost} (E : E_X7_copy Γ Q) : jSA Γ Q 147 (o_aload 0) 1 := so_aload_n E.2.2.1 rfl dX7_copy_147
theorem oo_X7_copy_148 {Γ : jΓ} {Q : jPost} (E : E_X7_copy Γ Q) : jSA Γ Q 148 (o_getf 7 32) 3 := so_getf (ci := 7) E.2.2.1 wi_X7_copy_X7 (by rw [E.2.1]; rfl) 32 (by decide) wl_X7_copy_70 dX7_copy_148
theorem oo_X7_copy_151 {Γ : jΓ} {Q : jPost} (E : E_X7_copy Γ Q) : jSA Γ Q 151 (o_iload 6) 2 := so_iload E.2.2.1 dX7_copy_151
theorem oo_X7_copy_153 {Γ : jΓ} {Q : jPost} (E : E_X7_copy Γ Q) : jSA Γ Q 153 (o_iald) 1 := so_iald E.2.2.1 dX7_copy_153
theorem oo_X7_copy_154 {Γ : jΓ} {Q : jPost} (E : E_X7_copy Γ Q) : jSA Γ Q 154 (o_iast) 1 := so_iast E.2.2.1 dX7_copy_154
theorem oo_X7_copy_155 {Γ : jΓ} {Q : jPost} (E : E_X7_copy Γ Q) : jSA Γ Q 155 (o_iinc 6 (1)) 3 := so_iinc E.2.2.1 rfl (by rw [E.1]; decide) dX7_copy_155
theorem oo_X7_copy_158 {Γ : jΓ} {Q : jPost} (E : E_X7_copy Γ Q) : jSA Γ Q 158 (o_goto 126) 3 := so_goto E.2.2.1 (by decide) dX7_copy_158
theorem oo_X7_copy_161 {Γ : jΓ} {Q : jPost} (E : E_X7_copy Γ Q) : jSA Γ Q 161 (o_iload 5) 2 := so_iload E.2.2.1 dX7_copy_161
theorem oo_X7_copy_163 {Γ : jΓ} {Q : jPost} (E : E_X7_copy Γ Q) : jSA Γ Q 163 (o_ireti) 1 := so_ireti E.2.2.1 E.2.2.2 dX7_copy_163
theorem ok_X7_copy_0 {Γ : jΓ} {Q : jPost} (E : E_X7_copy Γ Q) : jSS Γ Q 0 sg_X7_copy_0 := ⟨oo_X7_copy_0 E, oo_X7_copy_1 E, oo_X7_copy_4 E, oo_X7_copy_7 E, oo_X7_copy_8 E, oo_X7_copy_11 E, oo_X7_copy_14 E, oo_X7_copy_15 E, trivial⟩
theorem ok_X7_copy_14 {Γ : jΓ} {Q : jPost} (E : E_X7_copy Γ Q) : jSS Γ Q 14 sg_X7_copy_14 := ⟨oo_X7_copy_14 E, oo_X7_copy_15 E, trivial⟩
theorem ok_X7_copy_16 {Γ : jΓ} {Q : jPost} (E : E_X7_copy Γ Q) : jSS Γ Q 16 sg_X7_copy_16 := ⟨oo_X7_copy_16 E, oo_X7_copy_17 E, oo_X7_copy_20 E, oo_X7_copy_21 E, oo_X7_copy_22 E, oo_X7_copy_25 E, oo_X7_copy_26 E, oo_X7_copy_29 E, oo_X7_copy_30 E, oo_X7_copy_31 E, oo_X7_copy_34 E, oo_X7_copy_36 E, trivial⟩
theorem ok_X7_copy_34 {Γ : jΓ} {Q : jPost} (E : E_X7_copy Γ Q) : jSS Γ Q 34 sg_X7_copy_34 := ⟨oo_X7_copy_34 E, oo_X7_copy_36 E, trivial⟩
theorem ok_X7_copy_37 {Γ : jΓ} {Q : jPost} (E : E_X7_copy Γ Q) : jSS Γ Q 37 sg_X7_copy_37 := ⟨oo_X7_copy_37 E, oo_X7_copy_38 E, oo_X7_copy_41 E, oo_X7_copy_42 E, oo_X7_copy_43 E, oo_X7_copy_44 E, oo_X7_copy_47 E, oo_X7_copy_48 E, oo_X7_copy_49 E, oo_X7_copy_52 E, oo_X7_copy_54 E, trivial⟩
theorem ok_X7_copy_55 {Γ : jΓ} {Q : jPost} (E : E_X7_copy Γ Q) : jSS Γ Q 55 sg_X7_copy_55 := ⟨oo_X7_copy_55 E, oo_X7_copy_57 E, oo_X7_copy_60 E, oo_X7_copy_61 E, oo_X7_copy_62 E, oo_X7_copy_63 E, oo_X7_copy_65 E, oo_X7_copy_68 E, oo_X7_copy_71 E, oo_X7_copy_72 E, oo_X7_copy_73 E, oo_X7_copy_75 E, oo_X7_copy_77 E, oo_X7_copy_80 E, oo_X7_copy_83 E, oo_X7_copy_85 E, trivial⟩
theorem ok_X7_copy_83 {Γ : jΓ} {Q : jPost} (E : E_X7_copy Γ Q) : jSS Γ Q 83 sg_X7_copy_83 := ⟨oo_X7_copy_83 E, oo_X7_copy_85 E, trivial⟩
theorem ok_X7_copy_86 {Γ : jΓ} {Q : jPost} (E : E_X7_copy Γ Q) : jSS Γ Q 86 sg_X7_copy_86 := ⟨oo_X7_copy_86 E, oo_X7_copy_87 E, trivial⟩
theorem ok_X7_copy_89 {Γ : jΓ} {Q : jPost} (E : E_X7_copy Γ Q) : jSS Γ Q 89 sg_X7_copy_89 := ⟨oo_X7_copy_89 E, oo_X7_copy_91 E, oo_X7_copy_93 E, oo_X7_copy_96 E, oo_X7_copy_97 E, oo_X7_copy_100 E, oo_X7_copy_102 E, oo_X7_copy_103 E, oo_X7_copy_106 E, oo_X7_copy_108 E, oo_X7_copy_109 E, oo_X7_copy_110 E, oo_X7_copy_111 E, oo_X7_copy_112 E, oo_X7_copy_114 E, oo_X7_copy_115 E, oo_X7_copy_116 E, oo_X7_copy_117 E, oo_X7_copy_120 E, trivial⟩
theorem ok_X7_copy_123 {Γ : jΓ} {Q : jPost} (E : E_X7_copy Γ Q) : jSS Γ Q 123 sg_X7_copy_123 := ⟨oo_X7_copy_123 E, oo_X7_copy_124 E, trivial⟩
theorem ok_X7_copy_126 {Γ : jΓ} {Q : jPost} (E : E_X7_copy Γ Q) : jSS Γ Q 126 sg_X7_copy_126 := ⟨oo_X7_copy_126 E, oo_X7_copy_128 E, oo_X7_copy_130 E, oo_X7_copy_133 E, oo_X7_copy_134 E, oo_X7_copy_137 E, oo_X7_copy_139 E, oo_X7_copy_140 E, oo_X7_copy_141 E, oo_X7_copy_143 E, oo_X7_copy_144 E, oo_X7_copy_146 E, oo_X7_copy_147 E, oo_X7_copy_148 E, oo_X7_copy_151 E, oo_X7_copy_153 E, oo_X7_copy_154 E, oo_X7_copy_155 E, oo_X7_copy_158 E, trivial⟩
theorem ok_X7_copy_161 {Γ : jΓ} {Q : jPost} (E : E_X7_copy Γ Q) : jSS Γ Q 161 sg_X7_copy_161 := ⟨oo_X7_copy_161 E, oo_X7_copy_163 E, trivial⟩
theorem okc_X7_copy {Γ : jΓ} {Q : jPost} (E : E_X7_copy Γ Q) (t : Nat) : jSS Γ Q t (cd_X7_copy t) := by
  unfold cd_X7_copy
  split
  · exact ok_X7_copy_14 E
  · exact ok_X7_copy_16 E
  · exact ok_X7_copy_34 E
  · exact ok_X7_copy_37 E
  · exact ok_X7_copy_55 E
  · exact ok_X7_copy_83 E
  · exact ok_X7_copy_86 E
  · exact ok_X7_copy_123 E
  · exact ok_X7_copy_161 E
  · trivial
theorem m_X7_copy_of (l : Launch) (hv : ∀ (G : jGt) (Q : jPost) (vs : List Value) (K : List jK) (h : jM), jHd cd_X7_copy G Q sg_X7_copy_0 0 → jHd cd_X7_copy G Q sg_X7_copy_89 89 → jHd cd_X7_copy G Q sg_X7_copy_126 126 → T_X7_copy vs K h Q → (lg_sl vs).length ≤ 7 ∧ G 0 (jinit vs 7) [] K h 0 0) : jHolds vwCl l yX7_copy wsX7_copy 2 42 0 0 T_X7_copy := by
  refine jMet (cc := cX7_copy) (maxL := 7) (rt := (some .int)) (by decide +kernel) rfl (fun Γ Q vs K h hl hn hcl C hR hT => hv (jG Γ) Q vs K h ?_ ?_ ?_ hT)
  · exact fun n L st K h ce sl => jwp_ok (okc_X7_copy ⟨hn, hcl, C, hR⟩) n sg_X7_copy_0 0 (ok_X7_copy_0 ⟨hn, hcl, C, hR⟩) L st K h ce sl
  · exact fun n L st K h ce sl => jwp_ok (okc_X7_copy ⟨hn, hcl, C, hR⟩) n sg_X7_copy_89 89 (ok_X7_copy_89 ⟨hn, hcl, C, hR⟩) L st K h ce sl
  · exact fun n L st K h ce sl => jwp_ok (okc_X7_copy ⟨hn, hcl, C, hR⟩) n sg_X7_copy_126 126 (ok_X7_copy_126 ⟨hn, hcl, C, hR⟩) L st K h ce sl
set_option maxHeartbeats 4000000 in
set_option maxRecDepth 100000 in
theorem v_X7_copy {G : jGt} {Q : jPost} {K : List jK} {h : jM} {s : Int32} {i : Int32} {t : Int32} {j : Int32} {n : Int32} (hT : jXM K ∧ (¬ ((0 ≤ s ∧ s ≤ 3) ∧ (0 ≤ t ∧ t ≤ 3)) → Q (some (.int (-1))) K h) ∧ ((0 ≤ s ∧ s ≤ 3) ∧ (0 ≤ t ∧ t ≤ 3) → (0 ≤ (h 54 s.toNatClampNeg).toInt ∧ (h 54 s.toNatClampNeg).toInt ≤ 60) ∧ (0 ≤ (h 54 t.toNatClampNeg).toInt ∧ (h 54 t.toNatClampNeg).toInt ≤ 60) ∧ ((h 53 s.toNatClampNeg < 0 ∨ h 53 t.toNatClampNeg < 0) → Q (some (.int (-11))) K h) ∧ (¬ (h 53 s.toNatClampNeg < 0 ∨ h 53 t.toNatClampNeg < 0) → (¬ h 53 s.toNatClampNeg = h 53 t.toNatClampNeg → Q (some (.int (-12))) K h) ∧ (h 53 s.toNatClampNeg = h 53 t.toNatClampNeg → (¬ (¬ n < 0 ∧ (¬ i < 0 ∧ i.toInt + n.toInt ≤ (h 54 s.toNatClampNeg).toInt) ∧ (¬ j < 0 ∧ j.toInt + n.toInt ≤ (h 54 t.toNatClampNeg).toInt)) → Q (some (.int (-13))) K h) ∧ ((¬ n < 0 ∧ (¬ i < 0 ∧ i.toInt + n.toInt ≤ (h 54 s.toNatClampNeg).toInt) ∧ (¬ j < 0 ∧ j.toInt + n.toInt ≤ (h 54 t.toNatClampNeg).toInt)) → Q (some (.int n)) K (mCq (mCp1 h (60 * s.toNatClampNeg + i.toNatClampNeg) n.toNatClampNeg) (60 * t.toNatClampNeg + j.toNatClampNeg) n.toNatClampNeg)))))) (H0 : jHd cd_X7_copy G Q sg_X7_copy_0 0) (H89 : jHd cd_X7_copy G Q sg_X7_copy_89 89) (H126 : jHd cd_X7_copy G Q sg_X7_copy_126 126) : G 0 [some (.ref 37), some (.int s), some (.int i), some (.int t), some (.int j), some (.int n), none] [] K h 0 0 := by
  obtain ⟨hM, hT0, hT1⟩ := hT
  by_cases c1 : 0 ≤ s ∧ s ≤ 3
  · obtain ⟨a, ha, rfl⟩ := sh_of c1
    have a31 : a < 2147483648 := by omega
    have av : vp_in (nI a) 4 := vp_in_nI ha (by decide)
    by_cases c2 : 0 ≤ t ∧ t ≤ 3
    · obtain ⟨b, hb, rfl⟩ := sh_of c2
      have b31 : b < 2147483648 := by omega
      have bv : vp_in (nI b) 4 := vp_in_nI hb (by decide)
      have hT1 := hT1 ⟨c1, c2⟩
      rw [nI_clamp a31, nI_clamp b31] at hT1
      obtain ⟨la, lb, hT1, hT2⟩ := hT1
      by_cases c3 : h 53 a < 0
      · have hT1 := hT1 (Or.inl c3)
        refine H0 80 _ _ _ _ _ _ ?_
        simp only [sg_X7_copy_0, sg_X7_copy_14, sg_X7_copy_16, sg_X7_copy_34, sg_X7_copy_37, sg_X7_copy_55, sg_X7_copy_83, sg_X7_copy_86, sg_X7_copy_89, sg_X7_copy_123, sg_X7_copy_126, sg_X7_copy_161, cd_X7_copy, jwp, o_ic, o_lc, o_iload, o_lload, o_aload, o_istore, o_lstore, o_astore, o_iinc, o_pop, o_dup, o_dup2, o_iadd, o_isub, o_imul, o_iand, o_ior, o_ishl, o_ladd, o_lmul, o_land, o_lor, o_idiv, o_irem, o_ineg, o_i2l, o_l2i, o_i2b, o_i2s, o_lushr, o_lshr, o_lshl, o_lcmp, o_ifeq, o_ifne, o_iflt, o_ifge, o_ifgt, o_ifle, o_iceq, o_icne, o_iclt, o_icge, o_icgt, o_icle, o_goto, o_tsw, jsw, o_lsw, jlk, o_getf, o_putf, o_putz, o_iald, o_zald, o_iast, o_zast, o_aald, o_alen, o_gets, o_zld, o_zlen, o_cpy, o_call, o_callV, o_ireti, o_iretz, o_lret, o_vret, jg, js, jkp, jkill, jsp, jcs, jfw, jov, Value.category, Option.toList_some, Option.toList_none, List.nil_append, List.cons_append, List.append_nil, Nat.reduceAdd, true_and, and_true, jb0, jb01, jb1, jem, true_or, or_true, Classical.not_not, forall_const, List.length_cons, List.length_nil, Nat.reduceLeDiff, Nat.zero_le, Nat.reduceLT, and_self, not_true_eq_false, not_false_eq_true, false_imp_iff, true_imp_iff, implies_true, and_false, false_and, or_false, false_or, hM, km_37_0 hM, km_37_1 hM, km_37_2 hM, km_37_3 hM, km_37_4 hM, km_37_5 hM, km_37_6 hM, km_37_7 hM, km_37_8 hM, km_37_9 hM, km_37_10 hM, km_37_11 hM, km_37_12 hM, km_37_13 hM, km_37_14 hM, km_37_15 hM, km_37_16 hM, km_37_17 hM, km_37_18 hM, km_37_19 hM, km_37_20 hM, km_37_21 hM, km_37_22 hM, km_37_23 hM, km_37_24 hM, km_37_25 hM, km_37_26 hM, km_37_27 hM, km_37_28 hM, km_37_29 hM, km_37_30 hM, km_37_31 hM, km_37_32 hM, kmo_37 hM, kma_38 hM, kma_39 hM, kma_40 hM, kma_41 hM, kma_42 hM, kma_43 hM, kma_44 hM, kma_45 hM, kma_46 hM, kma_47 hM, kma_48 hM, kma_49 hM, kma_50 hM, kma_52 hM, kma_53 hM, kma_54 hM, kma_55 hM, kma_56 hM, kma_51 hM, T_X7_isSheet, c1, c2, av, bv, nI_clamp a31, nI_clamp b31, c3]
        exact hT1
      · by_cases c3b : h 53 b < 0
        · have hT1 := hT1 (Or.inr c3b)
          have c3' := Int32.not_le.mpr c3b
          refine H0 80 _ _ _ _ _ _ ?_
          simp only [sg_X7_copy_0, sg_X7_copy_14, sg_X7_copy_16, sg_X7_copy_34, sg_X7_copy_37, sg_X7_copy_55, sg_X7_copy_83, sg_X7_copy_86, sg_X7_copy_89, sg_X7_copy_123, sg_X7_copy_126, sg_X7_copy_161, cd_X7_copy, jwp, o_ic, o_lc, o_iload, o_lload, o_aload, o_istore, o_lstore, o_astore, o_iinc, o_pop, o_dup, o_dup2, o_iadd, o_isub, o_imul, o_iand, o_ior, o_ishl, o_ladd, o_lmul, o_land, o_lor, o_idiv, o_irem, o_ineg, o_i2l, o_l2i, o_i2b, o_i2s, o_lushr, o_lshr, o_lshl, o_lcmp, o_ifeq, o_ifne, o_iflt, o_ifge, o_ifgt, o_ifle, o_iceq, o_icne, o_iclt, o_icge, o_icgt, o_icle, o_goto, o_tsw, jsw, o_lsw, jlk, o_getf, o_putf, o_putz, o_iald, o_zald, o_iast, o_zast, o_aald, o_alen, o_gets, o_zld, o_zlen, o_cpy, o_call, o_callV, o_ireti, o_iretz, o_lret, o_vret, jg, js, jkp, jkill, jsp, jcs, jfw, jov, Value.category, Option.toList_some, Option.toList_none, List.nil_append, List.cons_append, List.append_nil, Nat.reduceAdd, true_and, and_true, jb0, jb01, jb1, jem, true_or, or_true, Classical.not_not, forall_const, List.length_cons, List.length_nil, Nat.reduceLeDiff, Nat.zero_le, Nat.reduceLT, and_self, not_true_eq_false, not_false_eq_true, false_imp_iff, true_imp_iff, implies_true, and_false, false_and, or_false, false_or, hM, km_37_0 hM, km_37_1 hM, km_37_2 hM, km_37_3 hM, km_37_4 hM, km_37_5 hM, km_37_6 hM, km_37_7 hM, km_37_8 hM, km_37_9 hM, km_37_10 hM, km_37_11 hM, km_37_12 hM, km_37_13 hM, km_37_14 hM, km_37_15 hM, km_37_16 hM, km_37_17 hM, km_37_18 hM, km_37_19 hM, km_37_20 hM, km_37_21 hM, km_37_22 hM, km_37_23 hM, km_37_24 hM, km_37_25 hM, km_37_26 hM, km_37_27 hM, km_37_28 hM, km_37_29 hM, km_37_30 hM, km_37_31 hM, km_37_32 hM, kmo_37 hM, kma_38 hM, kma_39 hM, kma_40 hM, kma_41 hM, kma_42 hM, kma_43 hM, kma_44 hM, kma_45 hM, kma_46 hM, kma_47 hM, kma_48 hM, kma_49 hM, kma_50 hM, kma_52 hM, kma_53 hM, kma_54 hM, kma_55 hM, kma_56 hM, kma_51 hM, T_X7_isSheet, c1, c2, av, bv, nI_clamp a31, nI_clamp b31, c3, c3']
          exact hT1
        · have c3' := Int32.not_lt.mp c3b
          obtain ⟨hT2, hT3⟩ := hT2 (fun z => z.elim c3 c3b)
          by_cases c4 : h 53 a = h 53 b
          · obtain ⟨hT3, hT4⟩ := hT3 c4
            have c3a : ¬ h 53 b < 0 := c3b
            by_cases c5 : n < 0
            · have hT3 := hT3 (fun z => z.1 c5)
              refine H0 80 _ _ _ _ _ _ ?_
              simp only [sg_X7_copy_0, sg_X7_copy_14, sg_X7_copy_16, sg_X7_copy_34, sg_X7_copy_37, sg_X7_copy_55, sg_X7_copy_83, sg_X7_copy_86, sg_X7_copy_89, sg_X7_copy_123, sg_X7_copy_126, sg_X7_copy_161, cd_X7_copy, jwp, o_ic, o_lc, o_iload, o_lload, o_aload, o_istore, o_lstore, o_astore, o_iinc, o_pop, o_dup, o_dup2, o_iadd, o_isub, o_imul, o_iand, o_ior, o_ishl, o_ladd, o_lmul, o_land, o_lor, o_idiv, o_irem, o_ineg, o_i2l, o_l2i, o_i2b, o_i2s, o_lushr, o_lshr, o_lshl, o_lcmp, o_ifeq, o_ifne, o_iflt, o_ifge, o_ifgt, o_ifle, o_iceq, o_icne, o_iclt, o_icge, o_icgt, o_icle, o_goto, o_tsw, jsw, o_lsw, jlk, o_getf, o_putf, o_putz, o_iald, o_zald, o_iast, o_zast, o_aald, o_alen, o_gets, o_zld, o_zlen, o_cpy, o_call, o_callV, o_ireti, o_iretz, o_lret, o_vret, jg, js, jkp, jkill, jsp, jcs, jfw, jov, Value.category, Option.toList_some, Option.toList_none, List.nil_append, List.cons_append, List.append_nil, Nat.reduceAdd, true_and, and_true, jb0, jb01, jb1, jem, true_or, or_true, Classical.not_not, forall_const, List.length_cons, List.length_nil, Nat.reduceLeDiff, Nat.zero_le, Nat.reduceLT, and_self, not_true_eq_false, not_false_eq_true, false_imp_iff, true_imp_iff, implies_true, and_false, false_and, or_false, false_or, hM, km_37_0 hM, km_37_1 hM, km_37_2 hM, km_37_3 hM, km_37_4 hM, km_37_5 hM, km_37_6 hM, km_37_7 hM, km_37_8 hM, km_37_9 hM, km_37_10 hM, km_37_11 hM, km_37_12 hM, km_37_13 hM, km_37_14 hM, km_37_15 hM, km_37_16 hM, km_37_17 hM, km_37_18 hM, km_37_19 hM, km_37_20 hM, km_37_21 hM, km_37_22 hM, km_37_23 hM, km_37_24 hM, km_37_25 hM, km_37_26 hM, km_37_27 hM, km_37_28 hM, km_37_29 hM, km_37_30 hM, km_37_31 hM, km_37_32 hM, kmo_37 hM, kma_38 hM, kma_39 hM, kma_40 hM, kma_41 hM, kma_42 hM, kma_43 hM, kma_44 hM, kma_45 hM, kma_46 hM, kma_47 hM, kma_48 hM, kma_49 hM, kma_50 hM, kma_52 hM, kma_53 hM, kma_54 hM, kma_55 hM, kma_56 hM, kma_51 hM, T_X7_isSheet, c1, c2, av, bv, nI_clamp a31, nI_clamp b31, c3, c3', c3a, c4, c5]
              exact hT3
            · by_cases c6 : ¬ i < 0 ∧ i.toInt + n.toInt ≤ (h 54 a).toInt
              · by_cases c7 : ¬ j < 0 ∧ j.toInt + n.toInt ≤ (h 54 b).toInt
                · have hT4 := hT4 ⟨c5, c6, c7⟩
                  have c6i := c6
                  have c7i := c7
                  obtain ⟨N, hN2, rfl⟩ := nI_of c5
                  obtain ⟨I, hI2, rfl⟩ := nI_of c6.1
                  obtain ⟨J, hJ2, rfl⟩ := nI_of c7.1
                  rw [nI_clamp hN2, nI_clamp hI2, nI_clamp hJ2] at hT4
                  have hIN : I + N ≤ 60 := by
                    have := c6.2
                    rw [nI_toInt hN2, nI_toInt hI2] at this
                    omega
                  have hJN : J + N ≤ 60 := by
                    have := c7.2
                    rw [nI_toInt hN2, nI_toInt hJ2] at this
                    omega
                  clear hT0 hT1 hT2 hT3
                  have e60 : ∀ q r k, (60 : Int32) * nI q + nI r + nI k = nI (60 * q + r + k) := fun q r k => by
                    rw [show (60 : Int32) = nI 60 from rfl, nI_mul, nI_add, nI_add]
                  have back : ∀ m k, k + m = N → G 126 [some (.ref 37), some (.int (nI a)), some (.int (nI I)), some (.int (nI b)), some (.int (nI J)), some (.int (nI N)), some (.int (nI k))] [] K (mCq (mCp1 h (60 * a + I) N) (60 * b + J) k) 0 0 := by
                    intro m
                    induction m with
                    | zero =>
                      intro k hk
                      have ek : k = N := by omega
                      subst ek
                      have hle2 : nI k ≤ nI k := Int32.le_refl _
                      refine H126 60 _ _ _ _ _ _ ?_
                      simp only [sg_X7_copy_0, sg_X7_copy_14, sg_X7_copy_16, sg_X7_copy_34, sg_X7_copy_37, sg_X7_copy_55, sg_X7_copy_83, sg_X7_copy_86, sg_X7_copy_89, sg_X7_copy_123, sg_X7_copy_126, sg_X7_copy_161, cd_X7_copy, jwp, o_ic, o_lc, o_iload, o_lload, o_aload, o_istore, o_lstore, o_astore, o_iinc, o_pop, o_dup, o_dup2, o_iadd, o_isub, o_imul, o_iand, o_ior, o_ishl, o_ladd, o_lmul, o_land, o_lor, o_idiv, o_irem, o_ineg, o_i2l, o_l2i, o_i2b, o_i2s, o_lushr, o_lshr, o_lshl, o_lcmp, o_ifeq, o_ifne, o_iflt, o_ifge, o_ifgt, o_ifle, o_iceq, o_icne, o_iclt, o_icge, o_icgt, o_icle, o_goto, o_tsw, jsw, o_lsw, jlk, o_getf, o_putf, o_putz, o_iald, o_zald, o_iast, o_zast, o_aald, o_alen, o_gets, o_zld, o_zlen, o_cpy, o_call, o_callV, o_ireti, o_iretz, o_lret, o_vret, jg, js, jkp, jkill, jsp, jcs, jfw, jov, Value.category, Option.toList_some, Option.toList_none, List.nil_append, List.cons_append, List.append_nil, Nat.reduceAdd, true_and, and_true, jb0, jb01, jb1, jem, true_or, or_true, Classical.not_not, forall_const, List.length_cons, List.length_nil, Nat.reduceLeDiff, Nat.zero_le, Nat.reduceLT, and_self, not_true_eq_false, not_false_eq_true, false_imp_iff, true_imp_iff, implies_true, and_false, false_and, or_false, false_or, hM, km_37_0 hM, km_37_1 hM, km_37_2 hM, km_37_3 hM, km_37_4 hM, km_37_5 hM, km_37_6 hM, km_37_7 hM, km_37_8 hM, km_37_9 hM, km_37_10 hM, km_37_11 hM, km_37_12 hM, km_37_13 hM, km_37_14 hM, km_37_15 hM, km_37_16 hM, km_37_17 hM, km_37_18 hM, km_37_19 hM, km_37_20 hM, km_37_21 hM, km_37_22 hM, km_37_23 hM, km_37_24 hM, km_37_25 hM, km_37_26 hM, km_37_27 hM, km_37_28 hM, km_37_29 hM, km_37_30 hM, km_37_31 hM, km_37_32 hM, kmo_37 hM, kma_38 hM, kma_39 hM, kma_40 hM, kma_41 hM, kma_42 hM, kma_43 hM, kma_44 hM, kma_45 hM, kma_46 hM, kma_47 hM, kma_48 hM, kma_49 hM, kma_50 hM, kma_52 hM, kma_53 hM, kma_54 hM, kma_55 hM, kma_56 hM, kma_51 hM, hle2]
                      exact hT4
                    | succ m ih =>
                      intro k hk
                      have h2 := ih (k + 1) (by omega)
                      rw [mCq_s] at h2
                      have hlt : ¬ nI N ≤ nI k := fun z => absurd ((nI_leI (by omega) (by omega)).mp z) (by omega)
                      have hvk : vp_in (nI k) 60 := vp_in_nI (by omega) (by decide)
                      have hvi : vp_in (nI (60 * b + J + k)) 240 := vp_in_nI (by omega) (by decide)
                      have ck := nI_clamp (show k < 2147483648 by omega)
                      have ci := nI_clamp (show 60 * b + J + k < 2147483648 by omega)
                      have e56 := mCq_o (mCp1 h (60 * a + I) N) (60 * b + J) k (c := 56) (by decide)
                      rw [← e56] at h2
                      have ek := e60 b J k
                      generalize mCq (mCp1 h (60 * a + I) N) (60 * b + J) k = q at h2 ⊢
                      refine H126 60 _ _ _ _ _ _ ?_
                      simp only [sg_X7_copy_0, sg_X7_copy_14, sg_X7_copy_16, sg_X7_copy_34, sg_X7_copy_37, sg_X7_copy_55, sg_X7_copy_83, sg_X7_copy_86, sg_X7_copy_89, sg_X7_copy_123, sg_X7_copy_126, sg_X7_copy_161, cd_X7_copy, jwp, o_ic, o_lc, o_iload, o_lload, o_aload, o_istore, o_lstore, o_astore, o_iinc, o_pop, o_dup, o_dup2, o_iadd, o_isub, o_imul, o_iand, o_ior, o_ishl, o_ladd, o_lmul, o_land, o_lor, o_idiv, o_irem, o_ineg, o_i2l, o_l2i, o_i2b, o_i2s, o_lushr, o_lshr, o_lshl, o_lcmp, o_ifeq, o_ifne, o_iflt, o_ifge, o_ifgt, o_ifle, o_iceq, o_icne, o_iclt, o_icge, o_icgt, o_icle, o_goto, o_tsw, jsw, o_lsw, jlk, o_getf, o_putf, o_putz, o_iald, o_zald, o_iast, o_zast, o_aald, o_alen, o_gets, o_zld, o_zlen, o_cpy, o_call, o_callV, o_ireti, o_iretz, o_lret, o_vret, jg, js, jkp, jkill, jsp, jcs, jfw, jov, Value.category, Option.toList_some, Option.toList_none, List.nil_append, List.cons_append, List.append_nil, Nat.reduceAdd, true_and, and_true, jb0, jb01, jb1, jem, true_or, or_true, Classical.not_not, forall_const, List.length_cons, List.length_nil, Nat.reduceLeDiff, Nat.zero_le, Nat.reduceLT, and_self, not_true_eq_false, not_false_eq_true, false_imp_iff, true_imp_iff, implies_true, and_false, false_and, or_false, false_or, hM, km_37_0 hM, km_37_1 hM, km_37_2 hM, km_37_3 hM, km_37_4 hM, km_37_5 hM, km_37_6 hM, km_37_7 hM, km_37_8 hM, km_37_9 hM, km_37_10 hM, km_37_11 hM, km_37_12 hM, km_37_13 hM, km_37_14 hM, km_37_15 hM, km_37_16 hM, km_37_17 hM, km_37_18 hM, km_37_19 hM, km_37_20 hM, km_37_21 hM, km_37_22 hM, km_37_23 hM, km_37_24 hM, km_37_25 hM, km_37_26 hM, km_37_27 hM, km_37_28 hM, km_37_29 hM, km_37_30 hM, km_37_31 hM, km_37_32 hM, kmo_37 hM, kma_38 hM, kma_39 hM, kma_40 hM, kma_41 hM, kma_42 hM, kma_43 hM, kma_44 hM, kma_45 hM, kma_46 hM, kma_47 hM, kma_48 hM, kma_49 hM, kma_50 hM, kma_52 hM, kma_53 hM, kma_54 hM, kma_55 hM, kma_56 hM, kma_51 hM, hlt, ek, hvk, hvi, ck, ci]
                      rw [nI_1]
                      exact h2
                  have there : ∀ m k, k + m = N → G 89 [some (.ref 37), some (.int (nI a)), some (.int (nI I)), some (.int (nI b)), some (.int (nI J)), some (.int (nI N)), some (.int (nI k))] [] K (mCp1 h (60 * a + I) k) 0 0 := by
                    intro m
                    induction m with
                    | zero =>
                      intro k hk
                      have ek : k = N := by omega
                      have h9 := back N 0 (by omega)
                      subst ek
                      have hle2 : nI k ≤ nI k := Int32.le_refl _
                      refine H89 60 _ _ _ _ _ _ ?_
                      simp only [sg_X7_copy_0, sg_X7_copy_14, sg_X7_copy_16, sg_X7_copy_34, sg_X7_copy_37, sg_X7_copy_55, sg_X7_copy_83, sg_X7_copy_86, sg_X7_copy_89, sg_X7_copy_123, sg_X7_copy_126, sg_X7_copy_161, cd_X7_copy, jwp, o_ic, o_lc, o_iload, o_lload, o_aload, o_istore, o_lstore, o_astore, o_iinc, o_pop, o_dup, o_dup2, o_iadd, o_isub, o_imul, o_iand, o_ior, o_ishl, o_ladd, o_lmul, o_land, o_lor, o_idiv, o_irem, o_ineg, o_i2l, o_l2i, o_i2b, o_i2s, o_lushr, o_lshr, o_lshl, o_lcmp, o_ifeq, o_ifne, o_iflt, o_ifge, o_ifgt, o_ifle, o_iceq, o_icne, o_iclt, o_icge, o_icgt, o_icle, o_goto, o_tsw, jsw, o_lsw, jlk, o_getf, o_putf, o_putz, o_iald, o_zald, o_iast, o_zast, o_aald, o_alen, o_gets, o_zld, o_zlen, o_cpy, o_call, o_callV, o_ireti, o_iretz, o_lret, o_vret, jg, js, jkp, jkill, jsp, jcs, jfw, jov, Value.category, Option.toList_some, Option.toList_none, List.nil_append, List.cons_append, List.append_nil, Nat.reduceAdd, true_and, and_true, jb0, jb01, jb1, jem, true_or, or_true, Classical.not_not, forall_const, List.length_cons, List.length_nil, Nat.reduceLeDiff, Nat.zero_le, Nat.reduceLT, and_self, not_true_eq_false, not_false_eq_true, false_imp_iff, true_imp_iff, implies_true, and_false, false_and, or_false, false_or, hM, km_37_0 hM, km_37_1 hM, km_37_2 hM, km_37_3 hM, km_37_4 hM, km_37_5 hM, km_37_6 hM, km_37_7 hM, km_37_8 hM, km_37_9 hM, km_37_10 hM, km_37_11 hM, km_37_12 hM, km_37_13 hM, km_37_14 hM, km_37_15 hM, km_37_16 hM, km_37_17 hM, km_37_18 hM, km_37_19 hM, km_37_20 hM, km_37_21 hM, km_37_22 hM, km_37_23 hM, km_37_24 hM, km_37_25 hM, km_37_26 hM, km_37_27 hM, km_37_28 hM, km_37_29 hM, km_37_30 hM, km_37_31 hM, km_37_32 hM, kmo_37 hM, kma_38 hM, kma_39 hM, kma_40 hM, kma_41 hM, kma_42 hM, kma_43 hM, kma_44 hM, kma_45 hM, kma_46 hM, kma_47 hM, kma_48 hM, kma_49 hM, kma_50 hM, kma_52 hM, kma_53 hM, kma_54 hM, kma_55 hM, kma_56 hM, kma_51 hM, hle2]
                      exact h9
                    | succ m ih =>
                      intro k hk
                      have h2 := ih (k + 1) (by omega)
                      rw [mCp1_s] at h2
                      have hlt : ¬ nI N ≤ nI k := fun z => absurd ((nI_leI (by omega) (by omega)).mp z) (by omega)
                      have hvk : vp_in (nI k) 60 := vp_in_nI (by omega) (by decide)
                      have hvi : vp_in (nI (60 * a + I + k)) 240 := vp_in_nI (by omega) (by decide)
                      have ck := nI_clamp (show k < 2147483648 by omega)
                      have ci := nI_clamp (show 60 * a + I + k < 2147483648 by omega)
                      have e55 := mCp1_o h (60 * a + I) k (c := 55) (by decide)
                      rw [← e55] at h2
                      have ek := e60 a I k
                      generalize mCp1 h (60 * a + I) k = q at h2 ⊢
                      refine H89 60 _ _ _ _ _ _ ?_
                      simp only [sg_X7_copy_0, sg_X7_copy_14, sg_X7_copy_16, sg_X7_copy_34, sg_X7_copy_37, sg_X7_copy_55, sg_X7_copy_83, sg_X7_copy_86, sg_X7_copy_89, sg_X7_copy_123, sg_X7_copy_126, sg_X7_copy_161, cd_X7_copy, jwp, o_ic, o_lc, o_iload, o_lload, o_aload, o_istore, o_lstore, o_astore, o_iinc, o_pop, o_dup, o_dup2, o_iadd, o_isub, o_imul, o_iand, o_ior, o_ishl, o_ladd, o_lmul, o_land, o_lor, o_idiv, o_irem, o_ineg, o_i2l, o_l2i, o_i2b, o_i2s, o_lushr, o_lshr, o_lshl, o_lcmp, o_ifeq, o_ifne, o_iflt, o_ifge, o_ifgt, o_ifle, o_iceq, o_icne, o_iclt, o_icge, o_icgt, o_icle, o_goto, o_tsw, jsw, o_lsw, jlk, o_getf, o_putf, o_putz, o_iald, o_zald, o_iast, o_zast, o_aald, o_alen, o_gets, o_zld, o_zlen, o_cpy, o_call, o_callV, o_ireti, o_iretz, o_lret, o_vret, jg, js, jkp, jkill, jsp, jcs, jfw, jov, Value.category, Option.toList_some, Option.toList_none, List.nil_append, List.cons_append, List.append_nil, Nat.reduceAdd, true_and, and_true, jb0, jb01, jb1, jem, true_or, or_true, Classical.not_not, forall_const, List.length_cons, List.length_nil, Nat.reduceLeDiff, Nat.zero_le, Nat.reduceLT, and_self, not_true_eq_false, not_false_eq_true, false_imp_iff, true_imp_iff, implies_true, and_false, false_and, or_false, false_or, hM, km_37_0 hM, km_37_1 hM, km_37_2 hM, km_37_3 hM, km_37_4 hM, km_37_5 hM, km_37_6 hM, km_37_7 hM, km_37_8 hM, km_37_9 hM, km_37_10 hM, km_37_11 hM, km_37_12 hM, km_37_13 hM, km_37_14 hM, km_37_15 hM, km_37_16 hM, km_37_17 hM, km_37_18 hM, km_37_19 hM, km_37_20 hM, km_37_21 hM, km_37_22 hM, km_37_23 hM, km_37_24 hM, km_37_25 hM, km_37_26 hM, km_37_27 hM, km_37_28 hM, km_37_29 hM, km_37_30 hM, km_37_31 hM, km_37_32 hM, kmo_37 hM, kma_38 hM, kma_39 hM, kma_40 hM, kma_41 hM, kma_42 hM, kma_43 hM, kma_44 hM, kma_45 hM, kma_46 hM, kma_47 hM, kma_48 hM, kma_49 hM, kma_50 hM, kma_52 hM, kma_53 hM, kma_54 hM, kma_55 hM, kma_56 hM, kma_51 hM, hlt, ek, hvk, hvi, ck, ci]
                      rw [nI_1]
                      exact h2
                  have h0 := there N 0 (by omega)
                  refine H0 80 _ _ _ _ _ _ ?_
                  simp only [sg_X7_copy_0, sg_X7_copy_14, sg_X7_copy_16, sg_X7_copy_34, sg_X7_copy_37, sg_X7_copy_55, sg_X7_copy_83, sg_X7_copy_86, sg_X7_copy_89, sg_X7_copy_123, sg_X7_copy_126, sg_X7_copy_161, cd_X7_copy, jwp, o_ic, o_lc, o_iload, o_lload, o_aload, o_istore, o_lstore, o_astore, o_iinc, o_pop, o_dup, o_dup2, o_iadd, o_isub, o_imul, o_iand, o_ior, o_ishl, o_ladd, o_lmul, o_land, o_lor, o_idiv, o_irem, o_ineg, o_i2l, o_l2i, o_i2b, o_i2s, o_lushr, o_lshr, o_lshl, o_lcmp, o_ifeq, o_ifne, o_iflt, o_ifge, o_ifgt, o_ifle, o_iceq, o_icne, o_iclt, o_icge, o_icgt, o_icle, o_goto, o_tsw, jsw, o_lsw, jlk, o_getf, o_putf, o_putz, o_iald, o_zald, o_iast, o_zast, o_aald, o_alen, o_gets, o_zld, o_zlen, o_cpy, o_call, o_callV, o_ireti, o_iretz, o_lret, o_vret, jg, js, jkp, jkill, jsp, jcs, jfw, jov, Value.category, Option.toList_some, Option.toList_none, List.nil_append, List.cons_append, List.append_nil, Nat.reduceAdd, true_and, and_true, jb0, jb01, jb1, jem, true_or, or_true, Classical.not_not, forall_const, List.length_cons, List.length_nil, Nat.reduceLeDiff, Nat.zero_le, Nat.reduceLT, and_self, not_true_eq_false, not_false_eq_true, false_imp_iff, true_imp_iff, implies_true, and_false, false_and, or_false, false_or, hM, km_37_0 hM, km_37_1 hM, km_37_2 hM, km_37_3 hM, km_37_4 hM, km_37_5 hM, km_37_6 hM, km_37_7 hM, km_37_8 hM, km_37_9 hM, km_37_10 hM, km_37_11 hM, km_37_12 hM, km_37_13 hM, km_37_14 hM, km_37_15 hM, km_37_16 hM, km_37_17 hM, km_37_18 hM, km_37_19 hM, km_37_20 hM, km_37_21 hM, km_37_22 hM, km_37_23 hM, km_37_24 hM, km_37_25 hM, km_37_26 hM, km_37_27 hM, km_37_28 hM, km_37_29 hM, km_37_30 hM, km_37_31 hM, km_37_32 hM, kmo_37 hM, kma_38 hM, kma_39 hM, kma_40 hM, kma_41 hM, kma_42 hM, kma_43 hM, kma_44 hM, kma_45 hM, kma_46 hM, kma_47 hM, kma_48 hM, kma_49 hM, kma_50 hM, kma_52 hM, kma_53 hM, kma_54 hM, kma_55 hM, kma_56 hM, kma_51 hM, T_X7_isSheet, c1, c2, av, bv, nI_clamp a31, nI_clamp b31, c3, c3', c3a, c4, c5, T_X7_isWithin, c6i, c7i]
                  exact h0
                · have hT3 := hT3 (fun z => c7 z.2.2)
                  refine H0 80 _ _ _ _ _ _ ?_
                  simp only [sg_X7_copy_0, sg_X7_copy_14, sg_X7_copy_16, sg_X7_copy_34, sg_X7_copy_37, sg_X7_copy_55, sg_X7_copy_83, sg_X7_copy_86, sg_X7_copy_89, sg_X7_copy_123, sg_X7_copy_126, sg_X7_copy_161, cd_X7_copy, jwp, o_ic, o_lc, o_iload, o_lload, o_aload, o_istore, o_lstore, o_astore, o_iinc, o_pop, o_dup, o_dup2, o_iadd, o_isub, o_imul, o_iand, o_ior, o_ishl, o_ladd, o_lmul, o_land, o_lor, o_idiv, o_irem, o_ineg, o_i2l, o_l2i, o_i2b, o_i2s, o_lushr, o_lshr, o_lshl, o_lcmp, o_ifeq, o_ifne, o_iflt, o_ifge, o_ifgt, o_ifle, o_iceq, o_icne, o_iclt, o_icge, o_icgt, o_icle, o_goto, o_tsw, jsw, o_lsw, jlk, o_getf, o_putf, o_putz, o_iald, o_zald, o_iast, o_zast, o_aald, o_alen, o_gets, o_zld, o_zlen, o_cpy, o_call, o_callV, o_ireti, o_iretz, o_lret, o_vret, jg, js, jkp, jkill, jsp, jcs, jfw, jov, Value.category, Option.toList_some, Option.toList_none, List.nil_append, List.cons_append, List.append_nil, Nat.reduceAdd, true_and, and_true, jb0, jb01, jb1, jem, true_or, or_true, Classical.not_not, forall_const, List.length_cons, List.length_nil, Nat.reduceLeDiff, Nat.zero_le, Nat.reduceLT, and_self, not_true_eq_false, not_false_eq_true, false_imp_iff, true_imp_iff, implies_true, and_false, false_and, or_false, false_or, hM, km_37_0 hM, km_37_1 hM, km_37_2 hM, km_37_3 hM, km_37_4 hM, km_37_5 hM, km_37_6 hM, km_37_7 hM, km_37_8 hM, km_37_9 hM, km_37_10 hM, km_37_11 hM, km_37_12 hM, km_37_13 hM, km_37_14 hM, km_37_15 hM, km_37_16 hM, km_37_17 hM, km_37_18 hM, km_37_19 hM, km_37_20 hM, km_37_21 hM, km_37_22 hM, km_37_23 hM, km_37_24 hM, km_37_25 hM, km_37_26 hM, km_37_27 hM, km_37_28 hM, km_37_29 hM, km_37_30 hM, km_37_31 hM, km_37_32 hM, kmo_37 hM, kma_38 hM, kma_39 hM, kma_40 hM, kma_41 hM, kma_42 hM, kma_43 hM, kma_44 hM, kma_45 hM, kma_46 hM, kma_47 hM, kma_48 hM, kma_49 hM, kma_50 hM, kma_52 hM, kma_53 hM, kma_54 hM, kma_55 hM, kma_56 hM, kma_51 hM, T_X7_isSheet, c1, c2, av, bv, nI_clamp a31, nI_clamp b31, c3, c3', c3a, c4, c5, T_X7_isWithin, c6, c7]
                  exact hT3
              · have hT3 := hT3 (fun z => c6 z.2.1)
                refine H0 80 _ _ _ _ _ _ ?_
                simp only [sg_X7_copy_0, sg_X7_copy_14, sg_X7_copy_16, sg_X7_copy_34, sg_X7_copy_37, sg_X7_copy_55, sg_X7_copy_83, sg_X7_copy_86, sg_X7_copy_89, sg_X7_copy_123, sg_X7_copy_126, sg_X7_copy_161, cd_X7_copy, jwp, o_ic, o_lc, o_iload, o_lload, o_aload, o_istore, o_lstore, o_astore, o_iinc, o_pop, o_dup, o_dup2, o_iadd, o_isub, o_imul, o_iand, o_ior, o_ishl, o_ladd, o_lmul, o_land, o_lor, o_idiv, o_irem, o_ineg, o_i2l, o_l2i, o_i2b, o_i2s, o_lushr, o_lshr, o_lshl, o_lcmp, o_ifeq, o_ifne, o_iflt, o_ifge, o_ifgt, o_ifle, o_iceq, o_icne, o_iclt, o_icge, o_icgt, o_icle, o_goto, o_tsw, jsw, o_lsw, jlk, o_getf, o_putf, o_putz, o_iald, o_zald, o_iast, o_zast, o_aald, o_alen, o_gets, o_zld, o_zlen, o_cpy, o_call, o_callV, o_ireti, o_iretz, o_lret, o_vret, jg, js, jkp, jkill, jsp, jcs, jfw, jov, Value.category, Option.toList_some, Option.toList_none, List.nil_append, List.cons_append, List.append_nil, Nat.reduceAdd, true_and, and_true, jb0, jb01, jb1, jem, true_or, or_true, Classical.not_not, forall_const, List.length_cons, List.length_nil, Nat.reduceLeDiff, Nat.zero_le, Nat.reduceLT, and_self, not_true_eq_false, not_false_eq_true, false_imp_iff, true_imp_iff, implies_true, and_false, false_and, or_false, false_or, hM, km_37_0 hM, km_37_1 hM, km_37_2 hM, km_37_3 hM, km_37_4 hM, km_37_5 hM, km_37_6 hM, km_37_7 hM, km_37_8 hM, km_37_9 hM, km_37_10 hM, km_37_11 hM, km_37_12 hM, km_37_13 hM, km_37_14 hM, km_37_15 hM, km_37_16 hM, km_37_17 hM, km_37_18 hM, km_37_19 hM, km_37_20 hM, km_37_21 hM, km_37_22 hM, km_37_23 hM, km_37_24 hM, km_37_25 hM, km_37_26 hM, km_37_27 hM, km_37_28 hM, km_37_29 hM, km_37_30 hM, km_37_31 hM, km_37_32 hM, kmo_37 hM, kma_38 hM, kma_39 hM, kma_40 hM, kma_41 hM, kma_42 hM, kma_43 hM, kma_44 hM, kma_45 hM, kma_46 hM, kma_47 hM, kma_48 hM, kma_49 hM, kma_50 hM, kma_52 hM, kma_53 hM, kma_54 hM, kma_55 hM, kma_56 hM, kma_51 hM, T_X7_isSheet, c1, c2, av, bv, nI_clamp a31, nI_clamp b31, c3, c3', c3a, c4, c5, T_X7_isWithin, c6]
                exact hT3
          · have hT2 := hT2 c4
            refine H0 80 _ _ _ _ _ _ ?_
            simp only [sg_X7_copy_0, sg_X7_copy_14, sg_X7_copy_16, sg_X7_copy_34, sg_X7_copy_37, sg_X7_copy_55, sg_X7_copy_83, sg_X7_copy_86, sg_X7_copy_89, sg_X7_copy_123, sg_X7_copy_126, sg_X7_copy_161, cd_X7_copy, jwp, o_ic, o_lc, o_iload, o_lload, o_aload, o_istore, o_lstore, o_astore, o_iinc, o_pop, o_dup, o_dup2, o_iadd, o_isub, o_imul, o_iand, o_ior, o_ishl, o_ladd, o_lmul, o_land, o_lor, o_idiv, o_irem, o_ineg, o_i2l, o_l2i, o_i2b, o_i2s, o_lushr, o_lshr, o_lshl, o_lcmp, o_ifeq, o_ifne, o_iflt, o_ifge, o_ifgt, o_ifle, o_iceq, o_icne, o_iclt, o_icge, o_icgt, o_icle, o_goto, o_tsw, jsw, o_lsw, jlk, o_getf, o_putf, o_putz, o_iald, o_zald, o_iast, o_zast, o_aald, o_alen, o_gets, o_zld, o_zlen, o_cpy, o_call, o_callV, o_ireti, o_iretz, o_lret, o_vret, jg, js, jkp, jkill, jsp, jcs, jfw, jov, Value.category, Option.toList_some, Option.toList_none, List.nil_append, List.cons_append, List.append_nil, Nat.reduceAdd, true_and, and_true, jb0, jb01, jb1, jem, true_or, or_true, Classical.not_not, forall_const, List.length_cons, List.length_nil, Nat.reduceLeDiff, Nat.zero_le, Nat.reduceLT, and_self, not_true_eq_false, not_false_eq_true, false_imp_iff, true_imp_iff, implies_true, and_false, false_and, or_false, false_or, hM, km_37_0 hM, km_37_1 hM, km_37_2 hM, km_37_3 hM, km_37_4 hM, km_37_5 hM, km_37_6 hM, km_37_7 hM, km_37_8 hM, km_37_9 hM, km_37_10 hM, km_37_11 hM, km_37_12 hM, km_37_13 hM, km_37_14 hM, km_37_15 hM, km_37_16 hM, km_37_17 hM, km_37_18 hM, km_37_19 hM, km_37_20 hM, km_37_21 hM, km_37_22 hM, km_37_23 hM, km_37_24 hM, km_37_25 hM, km_37_26 hM, km_37_27 hM, km_37_28 hM, km_37_29 hM, km_37_30 hM, km_37_31 hM, km_37_32 hM, kmo_37 hM, kma_38 hM, kma_39 hM, kma_40 hM, kma_41 hM, kma_42 hM, kma_43 hM, kma_44 hM, kma_45 hM, kma_46 hM, kma_47 hM, kma_48 hM, kma_49 hM, kma_50 hM, kma_52 hM, kma_53 hM, kma_54 hM, kma_55 hM, kma_56 hM, kma_51 hM, T_X7_isSheet, c1, c2, av, bv, nI_clamp a31, nI_clamp b31, c3, c3', c4]
            exact hT2
    · have hT0 := hT0 (fun z => c2 z.2)
      refine H0 80 _ _ _ _ _ _ ?_
      simp only [sg_X7_copy_0, sg_X7_copy_14, sg_X7_copy_16, sg_X7_copy_34, sg_X7_copy_37, sg_X7_copy_55, sg_X7_copy_83, sg_X7_copy_86, sg_X7_copy_89, sg_X7_copy_123, sg_X7_copy_126, sg_X7_copy_161, cd_X7_copy, jwp, o_ic, o_lc, o_iload, o_lload, o_aload, o_istore, o_lstore, o_astore, o_iinc, o_pop, o_dup, o_dup2, o_iadd, o_isub, o_imul, o_iand, o_ior, o_ishl, o_ladd, o_lmul, o_land, o_lor, o_idiv, o_irem, o_ineg, o_i2l, o_l2i, o_i2b, o_i2s, o_lushr, o_lshr, o_lshl, o_lcmp, o_ifeq, o_ifne, o_iflt, o_ifge, o_ifgt, o_ifle, o_iceq, o_icne, o_iclt, o_icge, o_icgt, o_icle, o_goto, o_tsw, jsw, o_lsw, jlk, o_getf, o_putf, o_putz, o_iald, o_zald, o_iast, o_zast, o_aald, o_alen, o_gets, o_zld, o_zlen, o_cpy, o_call, o_callV, o_ireti, o_iretz, o_lret, o_vret, jg, js, jkp, jkill, jsp, jcs, jfw, jov, Value.category, Option.toList_some, Option.toList_none, List.nil_append, List.cons_append, List.append_nil, Nat.reduceAdd, true_and, and_true, jb0, jb01, jb1, jem, true_or, or_true, Classical.not_not, forall_const, List.length_cons, List.length_nil, Nat.reduceLeDiff, Nat.zero_le, Nat.reduceLT, and_self, not_true_eq_false, not_false_eq_true, false_imp_iff, true_imp_iff, implies_true, and_false, false_and, or_false, false_or, hM, km_37_0 hM, km_37_1 hM, km_37_2 hM, km_37_3 hM, km_37_4 hM, km_37_5 hM, km_37_6 hM, km_37_7 hM, km_37_8 hM, km_37_9 hM, km_37_10 hM, km_37_11 hM, km_37_12 hM, km_37_13 hM, km_37_14 hM, km_37_15 hM, km_37_16 hM, km_37_17 hM, km_37_18 hM, km_37_19 hM, km_37_20 hM, km_37_21 hM, km_37_22 hM, km_37_23 hM, km_37_24 hM, km_37_25 hM, km_37_26 hM, km_37_27 hM, km_37_28 hM, km_37_29 hM, km_37_30 hM, km_37_31 hM, km_37_32 hM, kmo_37 hM, kma_38 hM, kma_39 hM, kma_40 hM, kma_41 hM, kma_42 hM, kma_43 hM, kma_44 hM, kma_45 hM, kma_46 hM, kma_47 hM, kma_48 hM, kma_49 hM, kma_50 hM, kma_52 hM, kma_53 hM, kma_54 hM, kma_55 hM, kma_56 hM, kma_51 hM, T_X7_isSheet, c1, c2]
      exact hT0
  · have hT0 := hT0 (fun z => c1 z.1)
    refine H0 80 _ _ _ _ _ _ ?_
    simp only [sg_X7_copy_0, sg_X7_copy_14, sg_X7_copy_16, sg_X7_copy_34, sg_X7_copy_37, sg_X7_copy_55, sg_X7_copy_83, sg_X7_copy_86, sg_X7_copy_89, sg_X7_copy_123, sg_X7_copy_126, sg_X7_copy_161, cd_X7_copy, jwp, o_ic, o_lc, o_iload, o_lload, o_aload, o_istore, o_lstore, o_astore, o_iinc, o_pop, o_dup, o_dup2, o_iadd, o_isub, o_imul, o_iand, o_ior, o_ishl, o_ladd, o_lmul, o_land, o_lor, o_idiv, o_irem, o_ineg, o_i2l, o_l2i, o_i2b, o_i2s, o_lushr, o_lshr, o_lshl, o_lcmp, o_ifeq, o_ifne, o_iflt, o_ifge, o_ifgt, o_ifle, o_iceq, o_icne, o_iclt, o_icge, o_icgt, o_icle, o_goto, o_tsw, jsw, o_lsw, jlk, o_getf, o_putf, o_putz, o_iald, o_zald, o_iast, o_zast, o_aald, o_alen, o_gets, o_zld, o_zlen, o_cpy, o_call, o_callV, o_ireti, o_iretz, o_lret, o_vret, jg, js, jkp, jkill, jsp, jcs, jfw, jov, Value.category, Option.toList_some, Option.toList_none, List.nil_append, List.cons_append, List.append_nil, Nat.reduceAdd, true_and, and_true, jb0, jb01, jb1, jem, true_or, or_true, Classical.not_not, forall_const, List.length_cons, List.length_nil, Nat.reduceLeDiff, Nat.zero_le, Nat.reduceLT, and_self, not_true_eq_false, not_false_eq_true, false_imp_iff, true_imp_iff, implies_true, and_false, false_and, or_false, false_or, hM, km_37_0 hM, km_37_1 hM, km_37_2 hM, km_37_3 hM, km_37_4 hM, km_37_5 hM, km_37_6 hM, km_37_7 hM, km_37_8 hM, km_37_9 hM, km_37_10 hM, km_37_11 hM, km_37_12 hM, km_37_13 hM, km_37_14 hM, km_37_15 hM, km_37_16 hM, km_37_17 hM, km_37_18 hM, km_37_19 hM, km_37_20 hM, km_37_21 hM, km_37_22 hM, km_37_23 hM, km_37_24 hM, km_37_25 hM, km_37_26 hM, km_37_27 hM, km_37_28 hM, km_37_29 hM, km_37_30 hM, km_37_31 hM, km_37_32 hM, kmo_37 hM, kma_38 hM, kma_39 hM, kma_40 hM, kma_41 hM, kma_42 hM, kma_43 hM, kma_44 hM, kma_45 hM, kma_46 hM, kma_47 hM, kma_48 hM, kma_49 hM, kma_50 hM, kma_52 hM, kma_53 hM, kma_54 hM, kma_55 hM, kma_56 hM, kma_51 hM, T_X7_isSheet, c1]
    exact hT0
theorem m_X7_copy (l : Launch) : jHolds vwCl l yX7_copy wsX7_copy 2 42 0 0 T_X7_copy := by
  refine m_X7_copy_of l (fun G Q vs K h H0 H89 H126 hT => ?_)
  unfold T_X7_copy at hT
  split at hT
  · obtain ⟨rfl, hT⟩ := hT
    exact ⟨Nat.le_of_ble_eq_true rfl, v_X7_copy hT H0 H89 H126⟩
  · exact hT.elim
