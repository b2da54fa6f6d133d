/-! X7_mark -/
/-! ===== the mark of the reference ===== -/
def mTake (h : jM) : Nat → jM
  | 0 => h
  | k + 1 => up2 (up2 (mTake h k) 52 k (mTake h k 38 k)) 51 k 0
theorem mTake_s (h : jM) (k : Nat) : mTake h (k + 1) = up2 (up2 (mTake h k) 52 k (mTake h k 38 k)) 51 k 0 := rfl
def T_X7_mark : jT := fun vs K h Q => match vs with
  | [.ref r0] => r0 = 37 ∧ (jXM K ∧ ∀ g, g = mTake (up2 (up2 (up2 h 37 19 1) 37 20 0) 37 21 0) 57600 → Q (some (.int (g 37 4))) K (up2 (up2 (up2 (up2 (up2 g 37 24 (g 37 4)) 37 25 (g 42 0)) 37 26 (g 43 0)) 37 27 (g 44 0)) 37 28 (g 45 0)))
  | _ => False
def sg_X7_mark_0 : jS := [(o_aload 0, 1), (o_ic (1), 1), (o_putz 7 19, 3), (o_aload 0, 1), (o_ic (0), 1), (o_putz 7 20, 3), (o_aload 0, 1), (o_ic (0), 1), (o_putz 7 21, 3), (o_ic (0), 1), (o_istore 1, 1)]
def sg_X7_mark_17 : jS := [(o_iload 1, 1), (o_ic (57600), 2), (o_icge 48, 3), (o_aload 0, 1), (o_getf 7 23, 3), (o_iload 1, 1), (o_aload 0, 1), (o_getf 7 2, 3), (o_iload 1, 1), (o_iald, 1), (o_iast, 1), (o_aload 0, 1), (o_getf 7 22, 3), (o_iload 1, 1), (o_ic (0), 1), (o_zast, 1), (o_iinc 1 (1), 3), (o_goto 17, 3)]
def sg_X7_mark_48 : jS := [(o_aload 0, 1), (o_aload 0, 1), (o_getf 7 4, 3), (o_putf 7 24, 3), (o_aload 0, 1), (o_aload 0, 1), (o_getf 7 9, 3), (o_ic (0), 1), (o_iald, 1), (o_putf 7 25, 3), (o_aload 0, 1), (o_aload 0, 1), (o_getf 7 10, 3), (o_ic (0), 1), (o_iald, 1), (o_putf 7 26, 3), (o_aload 0, 1), (o_aload 0, 1), (o_getf 7 11, 3), (o_ic (0), 1), (o_iald, 1), (o_putf 7 27, 3), (o_aload 0, 1), (o_aload 0, 1), (o_getf 7 12, 3), (o_ic (0), 1), (o_iald, 1), (o_putf 7 28, 3), (o_aload 0, 1), (o_getf 7 4, 3), (o_ireti, 1)]
def cd_X7_mark : Nat → jS := fun t => match t with
  | 48 => sg_X7_mark_48
  | _ => []
theorem wl_X7_mark_14 : Cond.fieldLink RX7 14 (TX7 2).1 (TX7 2).2.1 (TX7 2).2.2.1 ∈ wsX7_mark := by decide +kernel
theorem wl_X7_mark_27 : Cond.fieldLink RX7 27 (TX7 9).1 (TX7 9).2.1 (TX7 9).2.2.1 ∈ wsX7_mark := by decide +kernel
theorem wl_X7_mark_30 : Cond.fieldLink RX7 30 (TX7 10).1 (TX7 10).2.1 (TX7 10).2.2.1 ∈ wsX7_mark := by decide +kernel
theorem wl_X7_mark_33 : Cond.fieldLink RX7 33 (TX7 11).1 (TX7 11).2.1 (TX7 11).2.2.1 ∈ wsX7_mark := by decide +kernel
theorem wl_X7_mark_36 : Cond.fieldLink RX7 36 (TX7 12).1 (TX7 12).2.1 (TX7 12).2.2.1 ∈ wsX7_mark := by decide +kernel
theorem wl_X7_mark_54 : Cond.fieldLink RX7 54 (TX7 22).1 (TX7 22).2.1 (TX7 22).2.2.1 ∈ wsX7_mark := by decide +kernel
theorem wl_X7_mark_58 : Cond.fieldLink RX7 58 (TX7 23).1 (TX7 23).2.1 (TX7 23).2.2.1 ∈ wsX7_mark := by decide +kernel
theorem wl_X7_mark_91 : Cond.fieldLink RX7 91 (TX7 4).1 (TX7 4).2.1 (TX7 4).2.2.1 ∈ wsX7_mark := by decide +kernel
theorem wl_X7_mark_97 : Cond.fieldLink RX7 97 (TX7 19).1 (TX7 19).2.1 (TX7 19).2.2.1 ∈ wsX7_mark := by decide +kernel
theorem wl_X7_mark_110 : Cond.fieldLink RX7 110 (TX7 20).1 (TX7 20).2.1 (TX7 20).2.2.1 ∈ wsX7_mark := by decide +kernel
theorem wl_X7_mark_136 : Cond.fieldLink RX7 136 (TX7 21).1 (TX7 21).2.1 (TX7 21).2.2.1 ∈ wsX7_mark := by decide +kernel
theorem wl_X7_mark_152 : Cond.fieldLink RX7 152 (TX7 24).1 (TX7 24).2.1 (TX7 24).2.2.1 ∈ wsX7_mark := by decide +kernel
theorem wl_X7_mark_155 : Cond.fieldLink RX7 155 (TX7 25).1 (TX7 25).2.1 (TX7 25).2.2.1 ∈ wsX7_mark := by decide +kernel
theorem wl_X7_mark_158 : Cond.fieldLink RX7 158 (TX7 26).1 (TX7 26).2.1 (TX7 26).2.2.1 ∈ wsX7_mark := by decide +kernel
theorem wl_X7_mark_161 : Cond.fieldLink RX7 161 (TX7 27).1 (TX7 27).2.1 (TX7 27).2.2.1 ∈ wsX7_mark := by decide +kernel
theorem wl_X7_mark_164 : Cond.fieldLink RX7 164 (TX7 28).1 (TX7 28).2.1 (TX7 28).2.2.1 ∈ wsX7_mark := by decide +kernel
theorem wi_X7_mark_X7 : ∀ w ∈ u_ws RX7 TX7 33, w ∈ wsX7_mark := by decide +kernel
def E_X7_mark (Γ : jΓ) (Q : jPost) : Prop := Γ.2.2.2.2.2.2.2.2.2.2.1 = 2 ∧ Γ.2.2.2.2.2.2.2.2.2.2.2.1 = vwCl ∧ jC Γ cX7_mark RX7 "mark" (some .int) wsX7_mark 0 0 0 0 ∧ jR Γ Q 0 0
theorem oo_X7_mark_0 {Γ : jΓ} {Q : jPost} (E : E_X7_mark Γ Q) : jSA Γ Q 0 (o_aload 0) 1 := so_aload_n E.2.2.1 rfl dX7_mark_0
theorem oo_X7_mark_1 {Γ : jΓ} {Q : jPost} (E : E_X7_mark Γ Q) : jSA Γ Q 1 (o_ic (1)) 1 := so_iconst E.2.2.1 rfl dX7_mark_1
theorem oo_X7_mark_2 {Γ : jΓ} {Q : jPost} (E : E_X7_mark Γ Q) : jSA Γ Q 2 (o_putz 7 19) 3 := so_putz (ci := 7) E.2.2.1 tyX7 tyX7_ok nmX7 wi_X7_mark_X7 (by rw [E.2.1]; rfl) 19 (by decide) wl_X7_mark_97 rfl (by decide +kernel) dX7_mark_2
theorem oo_X7_mark_5 {Γ : jΓ} {Q : jPost} (E : E_X7_mark Γ Q) : jSA Γ Q 5 (o_aload 0) 1 := so_aload_n E.2.2.1 rfl dX7_mark_5
theorem oo_X7_mark_6 {Γ : jΓ} {Q : jPost} (E : E_X7_mark Γ Q) : jSA Γ Q 6 (o_ic (0)) 1 := so_iconst E.2.2.1 rfl dX7_mark_6
theorem oo_X7_mark_7 {Γ : jΓ} {Q : jPost} (E : E_X7_mark Γ Q) : jSA Γ Q 7 (o_putz 7 20) 3 := so_putz (ci := 7) E.2.2.1 tyX7 tyX7_ok nmX7 wi_X7_mark_X7 (by rw [E.2.1]; rfl) 20 (by decide) wl_X7_mark_110 rfl (by decide +kernel) dX7_mark_7
theorem oo_X7_mark_10 {Γ : jΓ} {Q : jPost} (E : E_X7_mark Γ Q) : jSA Γ Q 10 (o_aload 0) 1 := so_aload_n E.2.2.1 rfl dX7_mark_10
theorem oo_X7_mark_11 {Γ : jΓ} {Q : jPost} (E : E_X7_mark Γ Q) : jSA Γ Q 11 (o_ic (0)) 1 := so_iconst E.2.2.1 rfl dX7_mark_11
theorem oo_X7_mark_12 {Γ : jΓ} {Q : jPost} (E : E_X7_mark Γ Q) : jSA Γ Q 12 (o_putz 7 21) 3 := so_putz (ci := 7) E.2.2.1 tyX7 tyX7_ok nmX7 wi_X7_mark_X7 (by rw [E.2.1]; rfl) 21 (by decide) wl_X7_mark_136 rfl (by decide +kernel) dX7_mark_12
theorem oo_X7_mark_15 {Γ : jΓ} {Q : jPost} (E : E_X7_mark Γ Q) : jSA Γ Q 15 (o_ic (0)) 1 := so_iconst E.2.2.1 rfl dX7_mark_15
theorem oo_X7_mark_16 {Γ : jΓ} {Q : jPost} (E : E_X7_mark Γ Q) : jSA Γ Q 16 (o_istore 1) 1 := so_istore_n E.2.2.1 rfl (by rw [E.1]; decide) dX7_mark_16
theorem oo_X7_mark_17 {Γ : jΓ} {Q : jPost} (E : E_X7_mark Γ Q) : jSA Γ Q 17 (o_iload 1) 1 := so_iload_n E.2.2.1 rfl dX7_mark_17
theorem oo_X7_mark_18 {Γ : jΓ} {Q : jPost} (E : E_X7_mark Γ Q) : jSA Γ Q 18 (o_ic (57600)) 2 := so_ldc E.2.2.1 (by decide +kernel) dX7_mark_18
theorem oo_X7_mark_20 {Γ : jΓ} {Q : jPost} (E : E_X7_mark Γ Q) : jSA Γ Q 20 (o_icge 48) 3 := so_icge E.2.2.1 (by decide) dX7_mark_20
theorem oo_X7_mark_23 {Γ : jΓ} {Q : jPost} (E : E_X7_mark Γ Q) : jSA Γ Q 23 (o_aload 0) 1 := so_aload_n E.2.2.1 rfl dX7_mark_23
theorem oo_X7_mark_24 {Γ : jΓ} {Q : jPost} (E : E_X7_mark Γ Q) : jSA Γ Q 24 (o_getf 7 23) 3 := so_getf (ci := 7) E.2.2.1 wi_X7_mark_X7 (by rw [E.2.1]; rfl) 23 (by decide) wl_X7_mark_58 dX7_mark_24
theorem oo_X7_mark_27 {Γ : jΓ} {Q : jPost} (E : E_X7_mark Γ Q) : jSA Γ Q 27 (o_iload 1) 1 := so_iload_n E.2.2.1 rfl dX7_mark_27
theorem oo_X7_mark_28 {Γ : jΓ} {Q : jPost} (E : E_X7_mark Γ Q) : jSA Γ Q 28 (o_aload 0) 1 := so_aload_n E.2.2.1 rfl dX7_mark_28
theorem oo_X7_mark_29 {Γ : jΓ} {Q : jPost} (E : E_X7_mark Γ Q) : jSA Γ Q 29 (o_getf 7 2) 3 := so_getf (ci := 7) E.2.2.1 wi_X7_mark_X7 (by rw [E.2.1]; rfl) 2 (by decide) wl_X7_mark_14 dX7_mark_29
theorem oo_X7_mark_32 {Γ : jΓ} {Q : jPost} (E : E_X7_mark Γ Q) : jSA Γ Q 32 (o_iload 1) 1 := so_iload_n E.2.2.1 rfl dX7_mark_32
theorem oo_X7_mark_33 {Γ : jΓ} {Q : jPost} (E : E_X7_mark Γ Q) : jSA Γ Q 33 (o_iald) 1 := so_iald E.2.2.1 dX7_mark_33
theorem oo_X7_mark_34 {Γ : jΓ} {Q : jPost} (E : E_X7_mark Γ Q) : jSA Γ Q 34 (o_iast) 1 := so_iast E.2.2.1 dX7_mark_34
theorem oo_X7_mark_35 {Γ : jΓ} {Q : jPost} (E : E_X7_mark Γ Q) : jSA Γ Q 35 (o_aload 0) 1 := so_aload_n E.2.2.1 rfl dX7_mark_35
theorem oo_X7_mark_36 {Γ : jΓ} {Q : jPost} (E : E_X7_mark Γ Q) : jSA Γ Q 36 (o_getf 7 22) 3 := so_getf (ci := 7) E.2.2.1 wi_X7_mark_X7 (by rw [E.2.1]; rfl) 22 (by decide) wl_X7_mark_54 dX7_mark_36
theorem oo_X7_mark_39 {Γ : jΓ} {Q : jPost} (E : E_X7_mark Γ Q) : jSA Γ Q 39 (o_iload 1) 1 := so_iload_n E.2.2.1 rfl dX7_mark_39
theorem oo_X7_mark_40 {Γ : jΓ} {Q : jPost} (E : E_X7_mark Γ Q) : jSA Γ Q 40 (o_ic (0)) 1 := so_iconst E.2.2.1 rfl dX7_mark_40
theorem oo_X7_mark_41 {Γ : jΓ} {Q : jPost} (E : E_X7_mark Γ Q) : jSA Γ Q 41 (o_zast) 1 := so_zast E.2.2.1 dX7_mark_41
theorem oo_X7_mark_42 {Γ : jΓ} {Q : jPost} (E : E_X7_mark Γ Q) : jSA Γ Q 42 (o_iinc 1 (1)) 3 := so_iinc E.2.2.1 rfl (by rw [E.1]; decide) dX7_mark_42
theorem oo_X7_mark_45 {Γ : jΓ} {Q : jPost} (E : E_X7_mark Γ Q) : jSA Γ Q 45 (o_goto 17) 3 := so_goto E.2.2.1 (by decide) dX7_mark_45
theorem oo_X7_mark_48 {Γ : jΓ} {Q : jPost} (E : E_X7_mark Γ Q) : jSA Γ Q 48 (o_aload 0) 1 := so_aload_n E.2.2.1 rfl dX7_mark_48
theorem oo_X7_mark_49 {Γ : jΓ} {Q : jPost} (E : E_X7_mark Γ Q) : jSA Γ Q 49 (o_aload 0) 1 := so_aload_n E.2.2.1 rfl dX7_mark_49
theorem oo_X7_mark_50 {Γ : jΓ} {Q : jPost} (E : E_X7_mark Γ Q) : jSA Γ Q 50 (o_getf 7 4) 3 := so_getf (ci := 7) E.2.2.1 wi_X7_mark_X7 (by rw [E.2.1]; rfl) 4 (by decide) wl_X7_mark_91 dX7_mark_50
theorem oo_X7_mark_53 {Γ : jΓ} {Q : jPost} (E : E_X7_mark Γ Q) : jSA Γ Q 53 (o_putf 7 24) 3 := so_putf (ci := 7) E.2.2.1 tyX7 tyX7_ok nmX7 wi_X7_mark_X7 (by rw [E.2.1]; rfl) 24 (by decide) wl_X7_mark_152 rfl (by decide +kernel) dX7_mark_53
theorem oo_X7_mark_56 {Γ : jΓ} {Q : jPost} (E : E_X7_mark Γ Q) : jSA Γ Q 56 (o_aload 0) 1 := so_aload_n E.2.2.1 rfl dX7_mark_56
theorem oo_X7_mark_57 {Γ : jΓ} {Q : jPost} (E : E_X7_mark Γ Q) : jSA Γ Q 57 (o_aload 0) 1 := so_aload_n E.2.2.1 rfl dX7_mark_57
theorem oo_X7_mark_58 {Γ : jΓ} {Q : jPost} (E : E_X7_mark Γ Q) : jSA Γ Q 58 (o_getf 7 9) 3 := so_getf (ci := 7) E.2.2.1 wi_X7_mark_X7 (by rw [E.2.1]; rfl) 9 (by decide) wl_X7_mark_27 dX7_mark_58
theorem oo_X7_mark_61 {Γ : jΓ} {Q : jPost} (E : E_X7_mark Γ Q) : jSA Γ Q 61 (o_ic (0)) 1 := so_iconst E.2.2.1 rfl dX7_mark_61
theorem oo_X7_mark_62 {Γ : jΓ} {Q : jPost} (E : E_X7_mark Γ Q) : jSA Γ Q 62 (o_iald) 1 := so_iald E.2.2.1 dX7_mark_62
theorem oo_X7_mark_63 {Γ : jΓ} {Q : jPost} (E : E_X7_mark Γ Q) : jSA Γ Q 63 (o_putf 7 25) 3 := so_putf (ci := 7) E.2.2.1 tyX7 tyX7_ok nmX7 wi_X7_mark_X7 (by rw [E.2.1]; rfl) 25 (by decide) wl_X7_mark_155 rfl (by decide +kernel) dX7_mark_63
theorem oo_X7_mark_66 {Γ : jΓ} {Q : jPost} (E : E_X7_mark Γ Q) : jSA Γ Q 66 (o_aload 0) 1 := so_aload_n E.2.2.1 rfl dX7_mark_66
theorem oo_X7_mark_67 {Γ : jΓ} {Q : jPost} (E : E_X7_mark Γ Q) : jSA Γ Q 67 (o_aload 0) 1 := so_aload_n E.2.2.1 rfl dX7_mark_67
theorem oo_X7_mark_68 {Γ : jΓ} {Q : jPost} (E : E_X7_mark Γ Q) : jSA Γ Q 68 (o_getf 7 10) 3 := so_getf (ci := 7) E.2.2.1 wi_X7_mark_X7 (by rw [E.2.1]; rfl) 10 (by decide) wl_X7_mark_30 dX7_mark_68
theorem oo_X7_mark_71 {Γ : jΓ} {Q : jPost} (E : E_X7_mark Γ Q) : jSA Γ Q 71 (o_ic (0)) 1 := so_iconst E.2.2.1 rfl dX7_mark_71
theorem oo_X7_mark_72 {Γ : jΓ} {Q : jPost} (E : E_X7_mark Γ Q) : jSA Γ Q 72 (o_iald) 1 := so_iald E.2.2.1 dX7_mark_72
theorem oo_X7_mark_73 {Γ : jΓ} {Q : jPost} (E : E_X7_mark Γ Q) : jSA Γ Q 73 (o_putf 7 26) 3 := so_putf (ci := 7) E.2.2.1 tyX7 tyX7_ok nmX7 wi_X7_mark_X7 (by rw [E.2.1]; rfl) 26 (by decide) wl_X7_mark_158 rfl (by decide +kernel) dX7_mark_73
theorem oo_X7_mark_76 {Γ : jΓ} {Q : jPost} (E : E_X7_mark Γ Q) : jSA Γ Q 76 (o_aload 0) 1 := so_aload_n E.2.2.1 rfl dX7_mark_76
theorem oo_X7_mark_77 {Γ : jΓ} {Q : jPost} (E : E_X7_mark Γ Q) : jSA Γ Q 77 (o_aload 0) 1 := so_aload_n E.2.2.1 rfl dX7_mark_77
theorem oo_X7_mark_78 {Γ : jΓ} {Q : jPost} (E : E_X7_mark Γ Q) : jSA Γ Q 78 (o_getf 7 11) 3 := so_getf (ci := 7) E.2.2.1 wi_X7_mark_X7 (by rw [E.2.1]; rfl) 11 (by decide) wl_X7_mark_33 dX7_mark_78
theorem oo_X7_mark_81 {Γ : jΓ} {Q : jPost} (E : E_X7_mark Γ Q) : jSA Γ Q 81 (o_ic (0)) 1 := so_iconst E.2.2.1 rfl dX7_mark_81
theorem oo_X7_mark_82 {Γ : jΓ} {Q : jPost} (E : E_X7_mark Γ Q) : jSA Γ Q 82 (o_iald) 1 := so_iald E.2.2.1 dX7_mark_82
theorem oo_X7_mark_83 {Γ : jΓ} {Q : jPost} (E : E_X7_mark Γ Q) : jSA Γ Q 83 (o_putf 7 27) 3 := so_putf (ci := 7) E.2.2.1 tyX7 tyX7_ok nmX7 wi_X7_mark_X7 (by rw [E.2.1]; rfl) 27 (by decide) wl_X7_mark_161 rfl (by decide +kernel) dX7_mark_83
theorem oo_X7_mark_86 {Γ : jΓ} {Q : jPost} (E : E_X7_mark Γ Q) : jSA Γ Q 86 (o_aload 0) 1 := so_aload_n E.2.2.1 rfl dX7_mark_86
theorem oo_X7_mark_87 {Γ : jΓ} {Q : jPost} (E : E_X7_mark Γ Q) : jSA Γ Q 87 (o_aload 0) 1 := so_aload_n E.2.2.1 rfl dX7_mark_87
theorem oo_X7_mark_88 {Γ : jΓ} {Q : jPost} (E : E_X7_mark Γ Q) : jSA Γ Q 88 (o_getf 7 12) 3 := so_getf (ci := 7) E.2.2.1 wi_X7_mark_X7 (by rw [E.2.1]; rfl) 12 (by decide) wl_X7_mark_36 dX7_mark_88
theorem oo_X7_mark_91 {Γ : jΓ} {Q : jPost} (E : E_X7_mark Γ Q) : jSA Γ Q 91 (o_ic (0)) 1 := so_iconst E.2.2.1 rfl dX7_mark_91
theorem oo_X7_mark_92 {Γ : jΓ} {Q : jPost} (E : E_X7_mark Γ Q) : jSA Γ Q 92 (o_iald) 1 := so_iald E.2.2.1 dX7_mark_92
theorem oo_X7_mark_93 {Γ : jΓ} {Q : jPost} (E : E_X7_mark Γ Q) : jSA Γ Q 93 (o_putf 7 28) 3 := so_putf (ci := 7) E.2.2.1 tyX7 tyX7_ok nmX7 wi_X7_mark_X7 (by rw [E.2.1]; rfl) 28 (by decide) wl_X7_mark_164 rfl (by decide +kernel) dX7_mark_93
theorem oo_X7_mark_96 {Γ : jΓ} {Q : jPost} (E : E_X7_mark Γ Q) : jSA Γ Q 96 (o_aload 0) 1 := so_aload_n E.2.2.1 rfl dX7_mark_96
theorem oo_X7_mark_97 {Γ : jΓ} {Q : jPost} (E : E_X7_mark Γ Q) : jSA Γ Q 97 (o_getf 7 4) 3 := so_getf (ci := 7) E.2.2.1 wi_X7_mark_X7 (by rw [E.2.1]; rfl) 4 (by decide) wl_X7_mark_91 dX7_mark_97
theorem oo_X7_mark_100 {Γ : jΓ} {Q : jPost} (E : E_X7_mark Γ Q) : jSA Γ Q 100 (o_ireti) 1 := so_ireti E.2.2.1 E.2.2.2 dX7_mark_100
theorem ok_X7_mark_0 {Γ : jΓ} {Q : jPost} (E : E_X7_mark Γ Q) : jSS Γ Q 0 sg_X7_mark_0 := ⟨oo_X7_mark_0 E, oo_X7_mark_1 E, oo_X7_mark_2 E, oo_X7_mark_5 E, oo_X7_mark_6 E, oo_X7_mark_7 E, oo_X7_mark_10 E, oo_X7_mark_11 E, oo_X7_mark_12 E, oo_X7_mark_15 E, oo_X7_mark_16 E, trivial⟩
theorem ok_X7_mark_17 {Γ : jΓ} {Q : jPost} (E : E_X7_mark Γ Q) : jSS Γ Q 17 sg_X7_mark_17 := ⟨oo_X7_mark_17 E, oo_X7_mark_18 E, oo_X7_mark_20 E, oo_X7_mark_23 E, oo_X7_mark_24 E, oo_X7_mark_27 E, oo_X7_mark_28 E, oo_X7_mark_29 E, oo_X7_mark_32 E, oo_X7_mark_33 E, oo_X7_mark_34 E, oo_X7_mark_35 E, oo_X7_mark_36 E, oo_X7_mark_39 E, oo_X7_mark_40 E, oo_X7_mark_41 E, oo_X7_mark_42 E, oo_X7_mark_45 E, trivial⟩
theorem ok_X7_mark_48 {Γ : jΓ} {Q : jPost} (E : E_X7_mark Γ Q) : jSS Γ Q 48 sg_X7_mark_48 := ⟨oo_X7_mark_48 E, oo_X7_mark_49 E, oo_X7_mark_50 E, oo_X7_mark_53 E, oo_X7_mark_56 E, oo_X7_mark_57 E, oo_X7_mark_58 E, oo_X7_mark_61 E, oo_X7_mark_62 E, oo_X7_mark_63 E, oo_X7_mark_66 E, oo_X7_mark_67 E, oo_X7_mark_68 E, oo_X7_mark_71 E, oo_X7_mark_72 E, oo_X7_mark_73 E, oo_X7_mark_76 E, oo_X7_mark_77 E, oo_X7_mark_78 E, oo_X7_mark_81 E, oo_X7_mark_82 E, oo_X7_mark_83 E, oo_X7_mark_86 E, oo_X7_mark_87 E, oo_X7_mark_88 E, oo_X7_mark_91 E, oo_X7_mark_92 E, oo_X7_mark_93 E, oo_X7_mark_96 E, oo_X7_mark_97 E, oo_X7_mark_100 E, trivial⟩
theorem okc_X7_mark {Γ : jΓ} {Q : jPost} (E : E_X7_mark Γ Q) (t : Nat) : jSS Γ Q t (cd_X7_mark t) := by
  unfold cd_X7_mark
  split
  · exact ok_X7_mark_48 E
  · trivial
theorem m_X7_mark_of (l : Launch) (hv : ∀ (G : jGt) (Q : jPost) (vs : List Value) (K : List jK) (h : jM), jHd cd_X7_mark G Q sg_X7_mark_0 0 → jHd cd_X7_mark G Q sg_X7_mark_17 17 → T_X7_mark vs K h Q → (lg_sl vs).length ≤ 2 ∧ G 0 (jinit vs 2) [] K h 0 0) : jHolds vwCl l yX7_mark wsX7_mark 0 0 0 0 T_X7_mark := by
  refine jMet (cc := cX7_mark) (maxL := 2) (rt := (some .int)) (by decide +kernel) rfl (fun Γ Q vs K h hl hn hcl C hR hT => hv (jG Γ) Q vs K h ?_ ?_ hT)
  · exact fun n L st K h ce sl => jwp_ok (okc_X7_mark ⟨hn, hcl, C, hR⟩) n sg_X7_mark_0 0 (ok_X7_mark_0 ⟨hn, hcl, C, hR⟩) L st K h ce sl
  · exact fun n L st K h ce sl => jwp_ok (okc_X7_mark ⟨hn, hcl, C, hR⟩) n sg_X7_mark_17 17 (ok_X7_mark_17 ⟨hn, hcl, C, hR⟩) L st K h ce sl
set_option maxHeartbeats 4000000 in
set_option maxRecDepth 100000 in
theorem v_X7_mark {G : jGt} {Q : jPost} {K : List jK} {h : jM}  (hT : jXM K ∧ ∀ g, g = mTake (up2 (up2 (up2 h 37 19 1) 37 20 0) 37 21 0) 57600 → Q (some (.int (g 37 4))) K (up2 (up2 (up2 (up2 (up2 g 37 24 (g 37 4)) 37 25 (g 42 0)) 37 26 (g 43 0)) 37 27 (g 44 0)) 37 28 (g 45 0))) (H0 : jHd cd_X7_mark G Q sg_X7_mark_0 0) (H17 : jHd cd_X7_mark G Q sg_X7_mark_17 17) : G 0 [some (.ref 37), none] [] K h 0 0 := by
  obtain ⟨hM, hT⟩ := hT
  have loop : ∀ m k, k + m = 57600 → G 17 [some (.ref 37), some (.int (nI k))] [] K (mTake (up2 (up2 (up2 h 37 19 1) 37 20 0) 37 21 0) k) 0 0 := by
    intro m
    induction m with
    | zero =>
      intro k hk
      have hT := hT _ rfl
      have ek : k = 57600 := by omega
      have hle : (57600 : Int32) ≤ nI k := by subst ek; decide
      subst ek
      generalize mTake (up2 (up2 (up2 h 37 19 1) 37 20 0) 37 21 0) 57600 = g at hT ⊢
      generalize nI 57600 = w at hle ⊢
      have v0 : vp_in 0 6 := vp_in_nI (n := 0) (N := 6) (by decide) (by decide)
      have c0 : (0 : Int32).toNatClampNeg = 0 := by decide
      refine H17 90 _ _ _ _ _ _ ?_
      simp only [sg_X7_mark_0, sg_X7_mark_17, sg_X7_mark_48, cd_X7_mark, jwp, o_ic, o_lc, o_iload, o_lload, o_aload, o_istore, o_lstore, o_astore, o_iinc, o_pop, o_dup, o_dup2, o_iadd, o_isub, o_imul, o_iand, o_ior, o_ishl, o_ladd, o_lmul, o_land, o_lor, o_idiv, o_irem, o_ineg, o_i2l, o_l2i, o_i2b, o_i2s, o_lushr, o_lshr, o_lshl, o_lcmp, o_ifeq, o_ifne, o_iflt, o_ifge, o_ifgt, o_ifle, o_iceq, o_icne, o_iclt, o_icge, o_icgt, o_icle, o_goto, o_tsw, jsw, o_lsw, jlk, o_getf, o_putf, o_putz, o_iald, o_zald, o_iast, o_zast, o_aald, o_alen, o_gets, o_zld, o_zlen, o_cpy, o_call, o_callV, o_ireti, o_iretz, o_lret, o_vret, jg, js, jkp, jkill, jsp, jcs, jfw, jov, Value.category, Option.toList_some, Option.toList_none, List.nil_append, List.cons_append, List.append_nil, Nat.reduceAdd, true_and, and_true, jb0, jb01, jb1, jem, true_or, or_true, Classical.not_not, forall_const, List.length_cons, List.length_nil, Nat.reduceLeDiff, Nat.zero_le, Nat.reduceLT, and_self, not_true_eq_false, not_false_eq_true, false_imp_iff, true_imp_iff, implies_true, and_false, false_and, or_false, false_or, hM, km_37_0 hM, km_37_1 hM, km_37_2 hM, km_37_3 hM, km_37_4 hM, km_37_5 hM, km_37_6 hM, km_37_7 hM, km_37_8 hM, km_37_9 hM, km_37_10 hM, km_37_11 hM, km_37_12 hM, km_37_13 hM, km_37_14 hM, km_37_15 hM, km_37_16 hM, km_37_17 hM, km_37_18 hM, km_37_19 hM, km_37_20 hM, km_37_21 hM, km_37_22 hM, km_37_23 hM, km_37_24 hM, km_37_25 hM, km_37_26 hM, km_37_27 hM, km_37_28 hM, km_37_29 hM, km_37_30 hM, km_37_31 hM, km_37_32 hM, kmo_37 hM, kma_38 hM, kma_39 hM, kma_40 hM, kma_41 hM, kma_42 hM, kma_43 hM, kma_44 hM, kma_45 hM, kma_46 hM, kma_47 hM, kma_48 hM, kma_49 hM, kma_50 hM, kma_52 hM, kma_53 hM, kma_54 hM, kma_55 hM, kma_56 hM, kma_51 hM, hle, v0, c0, up2_n (show ¬ 42 = 37 by decide), up2_n (show ¬ 43 = 37 by decide), up2_n (show ¬ 44 = 37 by decide), up2_n (show ¬ 45 = 37 by decide), up2_s, upd_n (show ¬ 4 = 24 by decide), upd_n (show ¬ 4 = 25 by decide), upd_n (show ¬ 4 = 26 by decide), upd_n (show ¬ 4 = 27 by decide), upd_n (show ¬ 4 = 28 by decide)]
      exact hT
    | succ m ih =>
      intro k hk
      have h2 := ih (k + 1) (by omega)
      rw [mTake_s] at h2
      have hvi : vp_in (nI k) 57600 := vp_in_nI (by omega) (by decide)
      have hlt : ¬ (57600 : Int32) ≤ nI k := fun z => absurd ((nI_leI (a := 57600) (by omega) (by omega)).mp z) (by omega)
      generalize mTake (up2 (up2 (up2 h 37 19 1) 37 20 0) 37 21 0) k = g at h2 ⊢
      refine H17 60 _ _ _ _ _ _ ?_
      simp only [sg_X7_mark_0, sg_X7_mark_17, sg_X7_mark_48, cd_X7_mark, jwp, o_ic, o_lc, o_iload, o_lload, o_aload, o_istore, o_lstore, o_astore, o_iinc, o_pop, o_dup, o_dup2, o_iadd, o_isub, o_imul, o_iand, o_ior, o_ishl, o_ladd, o_lmul, o_land, o_lor, o_idiv, o_irem, o_ineg, o_i2l, o_l2i, o_i2b, o_i2s, o_lushr, o_lshr, o_lshl, o_lcmp, o_ifeq, o_ifne, o_iflt, o_ifge, o_ifgt, o_ifle, o_iceq, o_icne, o_iclt, o_icge, o_icgt, o_icle, o_goto, o_tsw, jsw, o_lsw, jlk, o_getf, o_putf, o_putz, o_iald, o_zald, o_iast, o_zast, o_aald, o_alen, o_gets, o_zld, o_zlen, o_cpy, o_call, o_callV, o_ireti, o_iretz, o_lret, o_vret, jg, js, jkp, jkill, jsp, jcs, jfw, jov, Value.category, Option.toList_some, Option.toList_none, List.nil_append, List.cons_append, List.append_nil, Nat.reduceAdd, true_and, and_true, jb0, jb01, jb1, jem, true_or, or_true, Classical.not_not, forall_const, List.length_cons, List.length_nil, Nat.reduceLeDiff, Nat.zero_le, Nat.reduceLT, and_self, not_true_eq_false, not_false_eq_true, false_imp_iff, true_imp_iff, implies_true, and_false, false_and, or_false, false_or, hM, km_37_0 hM, km_37_1 hM, km_37_2 hM, km_37_3 hM, km_37_4 hM, km_37_5 hM, km_37_6 hM, km_37_7 hM, km_37_8 hM, km_37_9 hM, km_37_10 hM, km_37_11 hM, km_37_12 hM, km_37_13 hM, km_37_14 hM, km_37_15 hM, km_37_16 hM, km_37_17 hM, km_37_18 hM, km_37_19 hM, km_37_20 hM, km_37_21 hM, km_37_22 hM, km_37_23 hM, km_37_24 hM, km_37_25 hM, km_37_26 hM, km_37_27 hM, km_37_28 hM, km_37_29 hM, km_37_30 hM, km_37_31 hM, km_37_32 hM, kmo_37 hM, kma_38 hM, kma_39 hM, kma_40 hM, kma_41 hM, kma_42 hM, kma_43 hM, kma_44 hM, kma_45 hM, kma_46 hM, kma_47 hM, kma_48 hM, kma_49 hM, kma_50 hM, kma_52 hM, kma_53 hM, kma_54 hM, kma_55 hM, kma_56 hM, kma_51 hM, hlt, hvi, nI_clamp (show k < 2147483648 by omega)]
      rw [nI_1]
      exact h2
  refine H0 80 _ _ _ _ _ _ ?_
  simp only [sg_X7_mark_0, sg_X7_mark_17, sg_X7_mark_48, cd_X7_mark, jwp, o_ic, o_lc, o_iload, o_lload, o_aload, o_istore, o_lstore, o_astore, o_iinc, o_pop, o_dup, o_dup2, o_iadd, o_isub, o_imul, o_iand, o_ior, o_ishl, o_ladd, o_lmul, o_land, o_lor, o_idiv, o_irem, o_ineg, o_i2l, o_l2i, o_i2b, o_i2s, o_lushr, o_lshr, o_lshl, o_lcmp, o_ifeq, o_ifne, o_iflt, o_ifge, o_ifgt, o_ifle, o_iceq, o_icne, o_iclt, o_icge, o_icgt, o_icle, o_goto, o_tsw, jsw, o_lsw, jlk, o_getf, o_putf, o_putz, o_iald, o_zald, o_iast, o_zast, o_aald, o_alen, o_gets, o_zld, o_zlen, o_cpy, o_call, o_callV, o_ireti, o_iretz, o_lret, o_vret, jg, js, jkp, jkill, jsp, jcs, jfw, jov, Value.category, Option.toList_some, Option.toList_none, List.nil_append, List.cons_append, List.append_nil, Nat.reduceAdd, true_and, and_true, jb0, jb01, jb1, jem, true_or, or_true, Classical.not_not, forall_const, List.length_cons, List.length_nil, Nat.reduceLeDiff, Nat.zero_le, Nat.reduceLT, and_self, not_true_eq_false, not_false_eq_true, false_imp_iff, true_imp_iff, implies_true, and_false, false_and, or_false, false_or, hM, km_37_0 hM, km_37_1 hM, km_37_2 hM, km_37_3 hM, km_37_4 hM, km_37_5 hM, km_37_6 hM, km_37_7 hM, km_37_8 hM, km_37_9 hM, km_37_10 hM, km_37_11 hM, km_37_12 hM, km_37_13 hM, km_37_14 hM, km_37_15 hM, km_37_16 hM, km_37_17 hM, km_37_18 hM, km_37_19 hM, km_37_20 hM, km_37_21 hM, km_37_22 hM, km_37_23 hM, km_37_24 hM, km_37_25 hM, km_37_26 hM, km_37_27 hM, km_37_28 hM, km_37_29 hM, km_37_30 hM, km_37_31 hM, km_37_32 hM, kmo_37 hM, kma_38 hM, kma_39 hM, kma_40 hM, kma_41 hM, kma_42 hM, kma_43 hM, kma_44 hM, kma_45 hM, kma_46 hM, kma_47 hM, kma_48 hM, kma_49 hM, kma_50 hM, kma_52 hM, kma_53 hM, kma_54 hM, kma_55 hM, kma_56 hM, kma_51 hM]
  exact loop 57600 0 (by omega)
theorem m_X7_mark (l : Launch) : jHolds vwCl l yX7_mark wsX7_mark 0 0 0 0 T_X7_mark := by
  refine m_X7_mark_of l (fun G Q vs K h H0 H17 hT => ?_)
  unfold T_X7_mark at hT
  split at hT
  · obtain ⟨rfl, hT⟩ := hT
    exact ⟨Nat.le_of_ble_eq_true rfl, v_X7_mark hT H0 H17⟩
  · exact hT.elim
