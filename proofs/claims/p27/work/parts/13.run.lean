/-! ===== run, digest ===== -/
theorem nI_mul (a b : Nat) : nI a * nI b = nI (a * b) := by
  unfold nI
  exact (Int32.ofNat_mul a b).symm

/-! X6_digest -/
/-- the digest of a row of the floor, of x cells from place p on -/
def dgR (f : Nat → Int32) (h : Int64) (p : Nat) : Nat → Int64
  | 0 => h
  | x + 1 => 31 * dgR f h p x + (f (p + x)).toInt64
/-- of the uppermost k rows -/
def dgF (f : Nat → Int32) : Nat → Int64
  | 0 => 7
  | k + 1 => dgR f (dgF f k) ((239 - k) * 240) 240
theorem dgF_s (f : Nat → Int32) (k : Nat) : dgF f (k + 1) = dgR f (dgF f k) ((239 - k) * 240) 240 := rfl
/-- of i ants -/
def dgA (a : Nat → Nat → Int32) (h : Int64) : Nat → Int64
  | 0 => h
  | i + 1 => 31 * (31 * (31 * (31 * dgA a h i + (a i 0).toInt64) + (a i 1).toInt64) + (a i 2).toInt64) + (a i 3).toInt64
def T_X6_digest : jT := fun vs K h Q => match vs with
  | [.ref r0] => r0 = 0 ∧ (jX K ∧ (∃ cnt : Nat, cnt ≤ 6 ∧ h 0 7 = nI cnt ∧ Q (some (.long (dgA (fun i k => h (12 + i) k) (dgF (h 2) 240) cnt))) K h))
  | _ => False
def sg_X6_digest_0 : jS := [(o_lc (7), 3), (o_lstore 1, 1), (o_ic (239), 3), (o_istore 3, 1)]
def sg_X6_digest_8 : jS := [(o_iload 3, 1), (o_iflt 63, 3), (o_iload 3, 1), (o_ic (240), 3), (o_imul, 1), (o_istore 4, 2), (o_ic (0), 1), (o_istore 5, 2)]
def sg_X6_digest_22 : jS := [(o_iload 5, 2), (o_ic (240), 3), (o_icge 57, 3), (o_lc (31), 3), (o_lload 1, 1), (o_lmul, 1), (o_aload 0, 1), (o_getf 6 0, 3), (o_getf 1 2, 3), (o_iload 4, 2), (o_iload 5, 2), (o_iadd, 1), (o_iald, 1), (o_i2l, 1), (o_ladd, 1), (o_lstore 1, 1), (o_iinc 5 (1), 3), (o_goto 22, 3)]
def sg_X6_digest_57 : jS := [(o_iinc 3 (-1), 3), (o_goto 8, 3)]
def sg_X6_digest_63 : jS := [(o_ic (0), 1), (o_istore 3, 1)]
def sg_X6_digest_65 : jS := [(o_iload 3, 1), (o_aload 0, 1), (o_getf 6 7, 3), (o_icge 139, 3), (o_aload 0, 1), (o_getf 6 2, 3), (o_iload 3, 1), (o_aald 2, 1), (o_astore 4, 2), (o_lc (31), 3), (o_lload 1, 1), (o_lmul, 1), (o_aload 4, 2), (o_getf 0 0, 3), (o_i2l, 1), (o_ladd, 1), (o_lstore 1, 1), (o_lc (31), 3), (o_lload 1, 1), (o_lmul, 1), (o_aload 4, 2), (o_getf 0 1, 3), (o_i2l, 1), (o_ladd, 1), (o_lstore 1, 1), (o_lc (31), 3), (o_lload 1, 1), (o_lmul, 1), (o_aload 4, 2), (o_getf 0 2, 3), (o_i2l, 1), (o_ladd, 1), (o_lstore 1, 1), (o_lc (31), 3), (o_lload 1, 1), (o_lmul, 1), (o_aload 4, 2), (o_getf 0 3, 3), (o_i2l, 1), (o_ladd, 1), (o_lstore 1, 1), (o_iinc 3 (1), 3), (o_goto 65, 3)]
def sg_X6_digest_139 : jS := [(o_lload 1, 1), (o_lret, 1)]
def cd_X6_digest : Nat → jS := fun t => match t with
  | 57 => sg_X6_digest_57
  | 63 => sg_X6_digest_63
  | 139 => sg_X6_digest_139
  | _ => []
theorem wl_X6_digest_12 : Cond.fieldLink RX6 12 (TX6 0).1 (TX6 0).2.1 (TX6 0).2.2.1 ∈ wsX6_digest := by decide +kernel
theorem wl_X6_digest_25 : Cond.fieldLink RX6 25 (TX6 2).1 (TX6 2).2.1 (TX6 2).2.2.1 ∈ wsX6_digest := by decide +kernel
theorem wl_X6_digest_67 : Cond.fieldLink RX6 67 (TX6 7).1 (TX6 7).2.1 (TX6 7).2.2.1 ∈ wsX6_digest := by decide +kernel
theorem wl_X6_digest_111 : Cond.fieldLink RX6 111 (TX1 2).1 (TX1 2).2.1 (TX1 2).2.2.1 ∈ wsX6_digest := by decide +kernel
theorem wl_X6_digest_114 : Cond.fieldLink RX6 114 (TX0 0).1 (TX0 0).2.1 (TX0 0).2.2.1 ∈ wsX6_digest := by decide +kernel
theorem wl_X6_digest_117 : Cond.fieldLink RX6 117 (TX0 1).1 (TX0 1).2.1 (TX0 1).2.2.1 ∈ wsX6_digest := by decide +kernel
theorem wl_X6_digest_120 : Cond.fieldLink RX6 120 (TX0 2).1 (TX0 2).2.1 (TX0 2).2.2.1 ∈ wsX6_digest := by decide +kernel
theorem wl_X6_digest_123 : Cond.fieldLink RX6 123 (TX0 3).1 (TX0 3).2.1 (TX0 3).2.2.1 ∈ wsX6_digest := by decide +kernel
theorem wi_X6_digest_X0 : ∀ w ∈ u_ws RX0 TX0 4, w ∈ wsX6_digest := by decide +kernel
theorem wi_X6_digest_X1 : ∀ w ∈ u_ws RX1 TX1 4, w ∈ wsX6_digest := by decide +kernel
theorem wi_X6_digest_X6 : ∀ w ∈ u_ws RX6 TX6 9, w ∈ wsX6_digest := by decide +kernel
def E_X6_digest (Γ : jΓ) (Q : jPost) : Prop := Γ.2.2.2.2.2.2.2.2.2.2.1 = 6 ∧ Γ.2.2.2.2.2.2.2.2.2.2.2.1 = vwCl ∧ jC Γ cX6_digest RX6 "digest" (some .long) wsX6_digest 0 0 0 0 ∧ jR Γ Q 0 0
theorem oo_X6_digest_0 {Γ : jΓ} {Q : jPost} (E : E_X6_digest Γ Q) : jSA Γ Q 0 (o_lc (7)) 3 := so_ldc2 E.2.2.1 (by decide +kernel) dX6_digest_0
theorem oo_X6_digest_3 {Γ : jΓ} {Q : jPost} (E : E_X6_digest Γ Q) : jSA Γ Q 3 (o_lstore 1) 1 := so_lstore_n E.2.2.1 rfl (by rw [E.1]; decide) dX6_digest_3
theorem oo_X6_digest_4 {Γ : jΓ} {Q : jPost} (E : E_X6_digest Γ Q) : jSA Γ Q 4 (o_ic (239)) 3 := so_sipush E.2.2.1 rfl dX6_digest_4
theorem oo_X6_digest_7 {Γ : jΓ} {Q : jPost} (E : E_X6_digest Γ Q) : jSA Γ Q 7 (o_istore 3) 1 := so_istore_n E.2.2.1 rfl (by rw [E.1]; decide) dX6_digest_7
theorem oo_X6_digest_8 {Γ : jΓ} {Q : jPost} (E : E_X6_digest Γ Q) : jSA Γ Q 8 (o_iload 3) 1 := so_iload_n E.2.2.1 rfl dX6_digest_8
theorem oo_X6_digest_9 {Γ : jΓ} {Q : jPost} (E : E_X6_digest Γ Q) : jSA Γ Q 9 (o_iflt 63) 3 := so_iflt E.2.2.1 (by decide) dX6_digest_9
theorem oo_X6_digest_12 {Γ : jΓ} {Q : jPost} (E : E_X6_digest Γ Q) : jSA Γ Q 12 (o_iload 3) 1 := so_iload_n E.2.2.1 rfl dX6_digest_12
theorem oo_X6_digest_13 {Γ : jΓ} {Q : jPost} (E : E_X6_digest Γ Q) : jSA Γ Q 13 (o_ic (240)) 3 := so_sipush E.2.2.1 rfl dX6_digest_13
theorem oo_X6_digest_16 {Γ : jΓ} {Q : jPost} (E : E_X6_digest Γ Q) : jSA Γ Q 16 (o_imul) 1 := so_imul E.2.2.1 dX6_digest_16
theorem oo_X6_digest_17 {Γ : jΓ} {Q : jPost} (E : E_X6_digest Γ Q) : jSA Γ Q 17 (o_istore 4) 2 := so_istore E.2.2.1 (by rw [E.1]; decide) dX6_digest_17
theorem oo_X6_digest_19 {Γ : jΓ} {Q : jPost} (E : E_X6_digest Γ Q) : jSA Γ Q 19 (o_ic (0)) 1 := so_iconst E.2.2.1 rfl dX6_digest_19
theorem oo_X6_digest_20 {Γ : jΓ} {Q : jPost} (E : E_X6_digest Γ Q) : jSA Γ Q 20 (o_istore 5) 2 := so_istore E.2.2.1 (by rw [E.1]; decide) dX6_digest_20
theorem oo_X6_digest_22 {Γ : jΓ} {Q : jPost} (E : E_X6_digest Γ Q) : jSA Γ Q 22 (o_iload 5) 2 := so_iload E.2.2.1 dX6_digest_22
theorem oo_X6_digest_24 {Γ : jΓ} {Q : jPost} (E : E_X6_digest Γ Q) : jSA Γ Q 24 (o_ic (240)) 3 := so_sipush E.2.2.1 rfl dX6_digest_24
theorem oo_X6_digest_27 {Γ : jΓ} {Q : jPost} (E : E_X6_digest Γ Q) : jSA Γ Q 27 (o_icge 57) 3 := so_icge E.2.2.1 (by decide) dX6_digest_27
theorem oo_X6_digest_30 {Γ : jΓ} {Q : jPost} (E : E_X6_digest Γ Q) : jSA Γ Q 30 (o_lc (31)) 3 := so_ldc2 E.2.2.1 (by decide +kernel) dX6_digest_30
theorem oo_X6_digest_33 {Γ : jΓ} {Q : jPost} (E : E_X6_digest Γ Q) : jSA Γ Q 33 (o_lload 1) 1 := so_lload_n E.2.2.1 rfl dX6_digest_33
theorem oo_X6_digest_34 {Γ : jΓ} {Q : jPost} (E : E_X6_digest Γ Q) : jSA Γ Q 34 (o_lmul) 1 := so_lmul E.2.2.1 dX6_digest_34
theorem oo_X6_digest_35 {Γ : jΓ} {Q : jPost} (E : E_X6_digest Γ Q) : jSA Γ Q 35 (o_aload 0) 1 := so_aload_n E.2.2.1 rfl dX6_digest_35
theorem oo_X6_digest_36 {Γ : jΓ} {Q : jPost} (E : E_X6_digest Γ Q) : jSA Γ Q 36 (o_getf 6 0) 3 := so_getf (ci := 6) E.2.2.1 wi_X6_digest_X6 (by rw [E.2.1]; rfl) 0 (by decide) wl_X6_digest_12 dX6_digest_36
theorem oo_X6_digest_39 {Γ : jΓ} {Q : jPost} (E : E_X6_digest Γ Q) : jSA Γ Q 39 (o_getf 1 2) 3 := so_getf (ci := 1) E.2.2.1 wi_X6_digest_X1 (by rw [E.2.1]; rfl) 2 (by decide) wl_X6_digest_111 dX6_digest_39
theorem oo_X6_digest_42 {Γ : jΓ} {Q : jPost} (E : E_X6_digest Γ Q) : jSA Γ Q 42 (o_iload 4) 2 := so_iload E.2.2.1 dX6_digest_42
theorem oo_X6_digest_44 {Γ : jΓ} {Q : jPost} (E : E_X6_digest Γ Q) : jSA Γ Q 44 (o_iload 5) 2 := so_iload E.2.2.1 dX6_digest_44
theorem oo_X6_digest_46 {Γ : jΓ} {Q : jPost} (E : E_X6_digest Γ Q) : jSA Γ Q 46 (o_iadd) 1 := so_iadd E.2.2.1 dX6_digest_46
theorem oo_X6_digest_47 {Γ : jΓ} {Q : jPost} (E : E_X6_digest Γ Q) : jSA Γ Q 47 (o_iald) 1 := so_iald E.2.2.1 dX6_digest_47
theorem oo_X6_digest_48 {Γ : jΓ} {Q : jPost} (E : E_X6_digest Γ Q) : jSA Γ Q 48 (o_i2l) 1 := so_i2l E.2.2.1 dX6_digest_48
theorem oo_X6_digest_49 {Γ : jΓ} {Q : jPost} (E : E_X6_digest Γ Q) : jSA Γ Q 49 (o_ladd) 1 := so_ladd E.2.2.1 dX6_digest_49
theorem oo_X6_digest_50 {Γ : jΓ} {Q : jPost} (E : E_X6_digest Γ Q) : jSA Γ Q 50 (o_lstore 1) 1 := so_lstore_n E.2.2.1 rfl (by rw [E.1]; decide) dX6_digest_50
theorem oo_X6_digest_51 {Γ : jΓ} {Q : jPost} (E : E_X6_digest Γ Q) : jSA Γ Q 51 (o_iinc 5 (1)) 3 := so_iinc E.2.2.1 rfl (by rw [E.1]; decide) dX6_digest_51
theorem oo_X6_digest_54 {Γ : jΓ} {Q : jPost} (E : E_X6_digest Γ Q) : jSA Γ Q 54 (o_goto 22) 3 := so_goto E.2.2.1 (by decide) dX6_digest_54
theorem oo_X6_digest_57 {Γ : jΓ} {Q : jPost} (E : E_X6_digest Γ Q) : jSA Γ Q 57 (o_iinc 3 (-1)) 3 := so_iinc E.2.2.1 rfl (by rw [E.1]; decide) dX6_digest_57
theorem oo_X6_digest_60 {Γ : jΓ} {Q : jPost} (E : E_X6_digest Γ Q) : jSA Γ Q 60 (o_goto 8) 3 := so_goto E.2.2.1 (by decide) dX6_digest_60
theorem oo_X6_digest_63 {Γ : jΓ} {Q : jPost} (E : E_X6_digest Γ Q) : jSA Γ Q 63 (o_ic (0)) 1 := so_iconst E.2.2.1 rfl dX6_digest_63
theorem oo_X6_digest_64 {Γ : jΓ} {Q : jPost} (E : E_X6_digest Γ Q) : jSA Γ Q 64 (o_istore 3) 1 := so_istore_n E.2.2.1 rfl (by rw [E.1]; decide) dX6_digest_64
theorem oo_X6_digest_65 {Γ : jΓ} {Q : jPost} (E : E_X6_digest Γ Q) : jSA Γ Q 65 (o_iload 3) 1 := so_iload_n E.2.2.1 rfl dX6_digest_65
theorem oo_X6_digest_66 {Γ : jΓ} {Q : jPost} (E : E_X6_digest Γ Q) : jSA Γ Q 66 (o_aload 0) 1 := so_aload_n E.2.2.1 rfl dX6_digest_66
theorem oo_X6_digest_67 {Γ : jΓ} {Q : jPost} (E : E_X6_digest Γ Q) : jSA Γ Q 67 (o_getf 6 7) 3 := so_getf (ci := 6) E.2.2.1 wi_X6_digest_X6 (by rw [E.2.1]; rfl) 7 (by decide) wl_X6_digest_67 dX6_digest_67
theorem oo_X6_digest_70 {Γ : jΓ} {Q : jPost} (E : E_X6_digest Γ Q) : jSA Γ Q 70 (o_icge 139) 3 := so_icge E.2.2.1 (by decide) dX6_digest_70
theorem oo_X6_digest_73 {Γ : jΓ} {Q : jPost} (E : E_X6_digest Γ Q) : jSA Γ Q 73 (o_aload 0) 1 := so_aload_n E.2.2.1 rfl dX6_digest_73
theorem oo_X6_digest_74 {Γ : jΓ} {Q : jPost} (E : E_X6_digest Γ Q) : jSA Γ Q 74 (o_getf 6 2) 3 := so_getf (ci := 6) E.2.2.1 wi_X6_digest_X6 (by rw [E.2.1]; rfl) 2 (by decide) wl_X6_digest_25 dX6_digest_74
theorem oo_X6_digest_77 {Γ : jΓ} {Q : jPost} (E : E_X6_digest Γ Q) : jSA Γ Q 77 (o_iload 3) 1 := so_iload_n E.2.2.1 rfl dX6_digest_77
theorem oo_X6_digest_78 {Γ : jΓ} {Q : jPost} (E : E_X6_digest Γ Q) : jSA Γ Q 78 (o_aald 2) 1 := so_aald2 E.2.2.1 dX6_digest_78
theorem oo_X6_digest_79 {Γ : jΓ} {Q : jPost} (E : E_X6_digest Γ Q) : jSA Γ Q 79 (o_astore 4) 2 := so_astore E.2.2.1 (by rw [E.1]; decide) dX6_digest_79
theorem oo_X6_digest_81 {Γ : jΓ} {Q : jPost} (E : E_X6_digest Γ Q) : jSA Γ Q 81 (o_lc (31)) 3 := so_ldc2 E.2.2.1 (by decide +kernel) dX6_digest_81
theorem oo_X6_digest_84 {Γ : jΓ} {Q : jPost} (E : E_X6_digest Γ Q) : jSA Γ Q 84 (o_lload 1) 1 := so_lload_n E.2.2.1 rfl dX6_digest_84
theorem oo_X6_digest_85 {Γ : jΓ} {Q : jPost} (E : E_X6_digest Γ Q) : jSA Γ Q 85 (o_lmul) 1 := so_lmul E.2.2.1 dX6_digest_85
theorem oo_X6_digest_86 {Γ : jΓ} {Q : jPost} (E : E_X6_digest Γ Q) : jSA Γ Q 86 (o_aload 4) 2 := so_aload E.2.2.1 dX6_digest_86
theorem oo_X6_digest_88 {Γ : jΓ} {Q : jPost} (E : E_X6_digest Γ Q) : jSA Γ Q 88 (o_getf 0 0) 3 := so_getf (ci := 0) E.2.2.1 wi_X6_digest_X0 (by rw [E.2.1]; rfl) 0 (by decide) wl_X6_digest_114 dX6_digest_88
theorem oo_X6_digest_91 {Γ : jΓ} {Q : jPost} (E : E_X6_digest Γ Q) : jSA Γ Q 91 (o_i2l) 1 := so_i2l E.2.2.1 dX6_digest_91
theorem oo_X6_digest_92 {Γ : jΓ} {Q : jPost} (E : E_X6_digest Γ Q) : jSA Γ Q 92 (o_ladd) 1 := so_ladd E.2.2.1 dX6_digest_92
theorem oo_X6_digest_93 {Γ : jΓ} {Q : jPost} (E : E_X6_digest Γ Q) : jSA Γ Q 93 (o_lstore 1) 1 := so_lstore_n E.2.2.1 rfl (by rw [E.1]; decide) dX6_digest_93
theorem oo_X6_digest_94 {Γ : jΓ} {Q : jPost} (E : E_X6_digest Γ Q) : jSA Γ Q 94 (o_lc (31)) 3 := so_ldc2 E.2.2.1 (by decide +kernel) dX6_digest_94
theorem oo_X6_digest_97 {Γ : jΓ} {Q : jPost} (E : E_X6_digest Γ Q) : jSA Γ Q 97 (o_lload 1) 1 := so_lload_n E.2.2.1 rfl dX6_digest_97
theorem oo_X6_digest_98 {Γ : jΓ} {Q : jPost} (E : E_X6_digest Γ Q) : jSA Γ Q 98 (o_lmul) 1 := so_lmul E.2.2.1 dX6_digest_98
theorem oo_X6_digest_99 {Γ : jΓ} {Q : jPost} (E : E_X6_digest Γ Q) : jSA Γ Q 99 (o_aload 4) 2 := so_aload E.2.2.1 dX6_digest_99
theorem oo_X6_digest_101 {Γ : jΓ} {Q : jPost} (E : E_X6_digest Γ Q) : jSA Γ Q 101 (o_getf 0 1) 3 := so_getf (ci := 0) E.2.2.1 wi_X6_digest_X0 (by rw [E.2.1]; rfl) 1 (by decide) wl_X6_digest_117 dX6_digest_101
theorem oo_X6_digest_104 {Γ : jΓ} {Q : jPost} (E : E_X6_digest Γ Q) : jSA Γ Q 104 (o_i2l) 1 := so_i2l E.2.2.1 dX6_digest_104
theorem oo_X6_digest_105 {Γ : jΓ} {Q : jPost} (E : E_X6_digest Γ Q) : jSA Γ Q 105 (o_ladd) 1 := so_ladd E.2.2.1 dX6_digest_105
theorem oo_X6_digest_106 {Γ : jΓ} {Q : jPost} (E : E_X6_digest Γ Q) : jSA Γ Q 106 (o_lstore 1) 1 := so_lstore_n E.2.2.1 rfl (by rw [E.1]; decide) dX6_digest_106
theorem oo_X6_digest_107 {Γ : jΓ} {Q : jPost} (E : E_X6_digest Γ Q) : jSA Γ Q 107 (o_lc (31)) 3 := so_ldc2 E.2.2.1 (by decide +kernel) dX6_digest_107
theorem oo_X6_digest_110 {Γ : jΓ} {Q : jPost} (E : E_X6_digest Γ Q) : jSA Γ Q 110 (o_lload 1) 1 := so_lload_n E.2.2.1 rfl dX6_digest_110
theorem oo_X6_digest_111 {Γ : jΓ} {Q : jPost} (E : E_X6_digest Γ Q) : jSA Γ Q 111 (o_lmul) 1 := so_lmul E.2.2.1 dX6_digest_111
theorem oo_X6_digest_112 {Γ : jΓ} {Q : jPost} (E : E_X6_digest Γ Q) : jSA Γ Q 112 (o_aload 4) 2 := so_aload E.2.2.1 dX6_digest_112
theorem oo_X6_digest_114 {Γ : jΓ} {Q : jPost} (E : E_X6_digest Γ Q) : jSA Γ Q 114 (o_getf 0 2) 3 := so_getf (ci := 0) E.2.2.1 wi_X6_digest_X0 (by rw [E.2.1]; rfl) 2 (by decide) wl_X6_digest_120 dX6_digest_114
theorem oo_X6_digest_117 {Γ : jΓ} {Q : jPost} (E : E_X6_digest Γ Q) : jSA Γ Q 117 (o_i2l) 1 := so_i2l E.2.2.1 dX6_digest_117
theorem oo_X6_digest_118 {Γ : jΓ} {Q : jPost} (E : E_X6_digest Γ Q) : jSA Γ Q 118 (o_ladd) 1 := so_ladd E.2.2.1 dX6_digest_118
theorem oo_X6_digest_119 {Γ : jΓ} {Q : jPost} (E : E_X6_digest Γ Q) : jSA Γ Q 119 (o_lstore 1) 1 := so_lstore_n E.2.2.1 rfl (by rw [E.1]; decide) dX6_digest_119
theorem oo_X6_digest_120 {Γ : jΓ} {Q : jPost} (E : E_X6_digest Γ Q) : jSA Γ Q 120 (o_lc (31)) 3 := so_ldc2 E.2.2.1 (by decide +kernel) dX6_digest_120
theorem oo_X6_digest_123 {Γ : jΓ} {Q : jPost} (E : E_X6_digest Γ Q) : jSA Γ Q 123 (o_lload 1) 1 := so_lload_n E.2.2.1 rfl dX6_digest_123
theorem oo_X6_digest_124 {Γ : jΓ} {Q : jPost} (E : E_X6_digest Γ Q) : jSA Γ Q 124 (o_lmul) 1 := so_lmul E.2.2.1 dX6_digest_124
theorem oo_X6_digest_125 {Γ : jΓ} {Q : jPost} (E : E_X6_digest Γ Q) : jSA Γ Q 125 (o_aload 4) 2 := so_aload E.2.2.1 dX6_digest_125
theorem oo_X6_digest_127 {Γ : jΓ} {Q : jPost} (E : E_X6_digest Γ Q) : jSA Γ Q 127 (o_getf 0 3) 3 := so_getf (ci := 0) E.2.2.1 wi_X6_digest_X0 (by rw [E.2.1]; rfl) 3 (by decide) wl_X6_digest_123 dX6_digest_127
theorem oo_X6_digest_130 {Γ : jΓ} {Q : jPost} (E : E_X6_digest Γ Q) : jSA Γ Q 130 (o_i2l) 1 := so_i2l E.2.2.1 dX6_digest_130
theorem oo_X6_digest_131 {Γ : jΓ} {Q : jPost} (E : E_X6_digest Γ Q) : jSA Γ Q 131 (o_ladd) 1 := so_ladd E.2.2.1 dX6_digest_131
theorem oo_X6_digest_132 {Γ : jΓ} {Q : jPost} (E : E_X6_digest Γ Q) : jSA Γ Q 132 (o_lstore 1) 1 := so_lstore_n E.2.2.1 rfl (by rw [E.1]; decide) dX6_digest_132
theorem oo_X6_digest_133 {Γ : jΓ} {Q : jPost} (E : E_X6_digest Γ Q) : jSA Γ Q 133 (o_iinc 3 (1)) 3 := so_iinc E.2.2.1 rfl (by rw [E.1]; decide) dX6_digest_133
theorem oo_X6_digest_136 {Γ : jΓ} {Q : jPost} (E : E_X6_digest Γ Q) : jSA Γ Q 136 (o_goto 65) 3 := so_goto E.2.2.1 (by decide) dX6_digest_136
theorem oo_X6_digest_139 {Γ : jΓ} {Q : jPost} (E : E_X6_digest Γ Q) : jSA Γ Q 139 (o_lload 1) 1 := so_lload_n E.2.2.1 rfl dX6_digest_139
theorem oo_X6_digest_140 {Γ : jΓ} {Q : jPost} (E : E_X6_digest Γ Q) : jSA Γ Q 140 (o_lret) 1 := so_lret E.2.2.1 E.2.2.2 dX6_digest_140
theorem ok_X6_digest_0 {Γ : jΓ} {Q : jPost} (E : E_X6_digest Γ Q) : jSS Γ Q 0 sg_X6_digest_0 := ⟨oo_X6_digest_0 E, oo_X6_digest_3 E, oo_X6_digest_4 E, oo_X6_digest_7 E, trivial⟩
theorem ok_X6_digest_8 {Γ : jΓ} {Q : jPost} (E : E_X6_digest Γ Q) : jSS Γ Q 8 sg_X6_digest_8 := ⟨oo_X6_digest_8 E, oo_X6_digest_9 E, oo_X6_digest_12 E, oo_X6_digest_13 E, oo_X6_digest_16 E, oo_X6_digest_17 E, oo_X6_digest_19 E, oo_X6_digest_20 E, trivial⟩
theorem ok_X6_digest_22 {Γ : jΓ} {Q : jPost} (E : E_X6_digest Γ Q) : jSS Γ Q 22 sg_X6_digest_22 := ⟨oo_X6_digest_22 E, oo_X6_digest_24 E, oo_X6_digest_27 E, oo_X6_digest_30 E, oo_X6_digest_33 E, oo_X6_digest_34 E, oo_X6_digest_35 E, oo_X6_digest_36 E, oo_X6_digest_39 E, oo_X6_digest_42 E, oo_X6_digest_44 E, oo_X6_digest_46 E, oo_X6_digest_47 E, oo_X6_digest_48 E, oo_X6_digest_49 E, oo_X6_digest_50 E, oo_X6_digest_51 E, oo_X6_digest_54 E, trivial⟩
theorem ok_X6_digest_57 {Γ : jΓ} {Q : jPost} (E : E_X6_digest Γ Q) : jSS Γ Q 57 sg_X6_digest_57 := ⟨oo_X6_digest_57 E, oo_X6_digest_60 E, trivial⟩
theorem ok_X6_digest_63 {Γ : jΓ} {Q : jPost} (E : E_X6_digest Γ Q) : jSS Γ Q 63 sg_X6_digest_63 := ⟨oo_X6_digest_63 E, oo_X6_digest_64 E, trivial⟩
theorem ok_X6_digest_65 {Γ : jΓ} {Q : jPost} (E : E_X6_digest Γ Q) : jSS Γ Q 65 sg_X6_digest_65 := ⟨oo_X6_digest_65 E, oo_X6_digest_66 E, oo_X6_digest_67 E, oo_X6_digest_70 E, oo_X6_digest_73 E, oo_X6_digest_74 E, oo_X6_digest_77 E, oo_X6_digest_78 E, oo_X6_digest_79 E, oo_X6_digest_81 E, oo_X6_digest_84 E, oo_X6_digest_85 E, oo_X6_digest_86 E, oo_X6_digest_88 E, oo_X6_digest_91 E, oo_X6_digest_92 E, oo_X6_digest_93 E, oo_X6_digest_94 E, oo_X6_digest_97 E, oo_X6_digest_98 E, oo_X6_digest_99 E, oo_X6_digest_101 E, oo_X6_digest_104 E, oo_X6_digest_105 E, oo_X6_digest_106 E, oo_X6_digest_107 E, oo_X6_digest_110 E, oo_X6_digest_111 E, oo_X6_digest_112 E, oo_X6_digest_114 E, oo_X6_digest_117 E, oo_X6_digest_118 E, oo_X6_digest_119 E, oo_X6_digest_120 E, oo_X6_digest_123 E, oo_X6_digest_124 E, oo_X6_digest_125 E, oo_X6_digest_127 E, oo_X6_digest_130 E, oo_X6_digest_131 E, oo_X6_digest_132 E, oo_X6_digest_133 E, oo_X6_digest_136 E, trivial⟩
theorem ok_X6_digest_139 {Γ : jΓ} {Q : jPost} (E : E_X6_digest Γ Q) : jSS Γ Q 139 sg_X6_digest_139 := ⟨oo_X6_digest_139 E, oo_X6_digest_140 E, trivial⟩
theorem okc_X6_digest {Γ : jΓ} {Q : jPost} (E : E_X6_digest Γ Q) (t : Nat) : jSS Γ Q t (cd_X6_digest t) := by
  unfold cd_X6_digest
  split
  · exact ok_X6_digest_57 E
  · exact ok_X6_digest_63 E
  · exact ok_X6_digest_139 E
  · trivial
theorem m_X6_digest_of (l : Launch) (hv : ∀ (G : jGt) (Q : jPost) (vs : List Value) (K : List jK) (h : jM), jHd cd_X6_digest G Q sg_X6_digest_0 0 → jHd cd_X6_digest G Q sg_X6_digest_8 8 → jHd cd_X6_digest G Q sg_X6_digest_22 22 → jHd cd_X6_digest G Q sg_X6_digest_65 65 → T_X6_digest vs K h Q → (lg_sl vs).length ≤ 6 ∧ G 0 (jinit vs 6) [] K h 0 0) : jHolds vwCl l yX6_digest wsX6_digest 0 0 0 0 T_X6_digest := by
  refine jMet (cc := cX6_digest) (maxL := 6) (rt := (some .long)) (by decide +kernel) rfl (fun Γ Q vs K h hl hn hcl C hR hT => hv (jG Γ) Q vs K h ?_ ?_ ?_ ?_ hT)
  · exact fun n L st K h ce sl => jwp_ok (okc_X6_digest ⟨hn, hcl, C, hR⟩) n sg_X6_digest_0 0 (ok_X6_digest_0 ⟨hn, hcl, C, hR⟩) L st K h ce sl
  · exact fun n L st K h ce sl => jwp_ok (okc_X6_digest ⟨hn, hcl, C, hR⟩) n sg_X6_digest_8 8 (ok_X6_digest_8 ⟨hn, hcl, C, hR⟩) L st K h ce sl
  · exact fun n L st K h ce sl => jwp_ok (okc_X6_digest ⟨hn, hcl, C, hR⟩) n sg_X6_digest_22 22 (ok_X6_digest_22 ⟨hn, hcl, C, hR⟩) L st K h ce sl
  · exact fun n L st K h ce sl => jwp_ok (okc_X6_digest ⟨hn, hcl, C, hR⟩) n sg_X6_digest_65 65 (ok_X6_digest_65 ⟨hn, hcl, C, hR⟩) L st K h ce sl
set_option maxHeartbeats 4000000 in
set_option maxRecDepth 100000 in
theorem v_X6_digest {G : jGt} {Q : jPost} {K : List jK} {h : jM}  (hT : jX K ∧ (∃ cnt : Nat, cnt ≤ 6 ∧ h 0 7 = nI cnt ∧ Q (some (.long (dgA (fun i k => h (12 + i) k) (dgF (h 2) 240) cnt))) K h)) (H0 : jHd cd_X6_digest G Q sg_X6_digest_0 0) (H8 : jHd cd_X6_digest G Q sg_X6_digest_8 8) (H22 : jHd cd_X6_digest G Q sg_X6_digest_22 22) (H65 : jHd cd_X6_digest G Q sg_X6_digest_65 65) : G 0 [some (.ref 0), none, none, none, none, none] [] K h 0 0 := by
  obtain ⟨hX, cnt, hc6, hcnt, hT⟩ := hT
  have ants : ∀ n i, i + n = cnt → ∀ x4 : Option Value, (∀ w : Int64, x4 ≠ some (.long w)) → (∀ w, x4 ≠ some (.double w)) → ∀ x5, G 65 [some (.ref 0), some (.long (dgA (fun i k => h (12 + i) k) (dgF (h 2) 240) i)), none, some (.int (nI i)), x4, x5] [] K h 0 0 := by
    intro n
    induction n with
    | zero =>
      intro i hi x4 _ _ x5
      have : i = cnt := by omega
      subst this
      refine H65 60 _ _ _ _ _ _ ?_
      simp only [sg_X6_digest_0, sg_X6_digest_8, sg_X6_digest_22, sg_X6_digest_57, sg_X6_digest_63, sg_X6_digest_65, sg_X6_digest_139, cd_X6_digest, jwp, o_ic, o_lc, o_iload, o_lload, o_aload, o_istore, o_lstore, o_astore, o_iinc, o_pop, o_dup, o_dup2, o_iadd, o_isub, o_imul, o_iand, o_ior, o_ishl, o_ladd, o_lmul, o_land, o_lor, o_idiv, o_irem, o_ineg, o_i2l, o_l2i, o_i2b, o_i2s, o_lushr, o_lshr, o_lshl, o_lcmp, o_ifeq, o_ifne, o_iflt, o_ifge, o_ifgt, o_ifle, o_iceq, o_icne, o_iclt, o_icge, o_icgt, o_icle, o_goto, o_tsw, jsw, o_lsw, jlk, o_getf, o_putf, o_putz, o_iald, o_zald, o_iast, o_zast, o_aald, o_alen, o_gets, o_zld, o_zlen, o_cpy, o_call, o_callV, o_ireti, o_iretz, o_lret, o_vret, jg, js, jkp, jkill, jsp, jcs, jfw, jov, Value.category, Option.toList_some, Option.toList_none, List.nil_append, List.cons_append, List.append_nil, Nat.reduceAdd, true_and, and_true, jb0, jb01, jb1, jem, true_or, or_true, Classical.not_not, forall_const, List.length_cons, List.length_nil, Nat.reduceLeDiff, Nat.zero_le, Nat.reduceLT, hX, kx_0_0 hX, kx_0_1 hX, kx_0_2 hX, kx_0_3 hX, kx_0_4 hX, kx_0_5 hX, kx_0_6 hX, kx_0_7 hX, kx_0_8 hX, kxo_0 hX, kx_1_0 hX, kx_1_1 hX, kx_1_2 hX, kx_1_3 hX, kxo_1 hX, kx_4_0 hX, kx_4_1 hX, kx_4_2 hX, kxo_4 hX, kx_19_0 hX, kx_19_1 hX, kx_19_2 hX, kx_19_3 hX, kx_19_4 hX, kxo_19 hX, kx_24_0 hX, kx_24_1 hX, kx_24_2 hX, kx_24_3 hX, kx_24_4 hX, kx_24_5 hX, kx_24_6 hX, kxo_24 hX, kxa_2 hX, kxa_3 hX, kxa_6 hX, kxa_7 hX, kxa_8 hX, kxa_9 hX, kxa_10 hX, kxa_18 hX, kxa_20 hX, kxa_21 hX, kxa_22 hX, kxa_23 hX, kxa_26 hX, kxa_27 hX, kxr_5 hX, kxr_11 hX, kxr_28 hX]
      rw [hcnt]
      exact ⟨fun _ => hT, fun q => absurd (Int32.le_refl _) q⟩
    | succ n ih =>
      intro i hi x4 hx1 hx2 x5
      have h6 : i < 6 := by omega
      have h31 : i < 2147483648 := by omega
      have hai : isAnt (12 + i) := by unfold isAnt; omega
      have hv : vp_in (nI i) 6 := vp_in_nI h6 (by decide)
      have h2 := ih (i + 1) (by omega) (some (.ref (12 + i))) (fun w => by simp) (fun w => by simp) x5
      refine H65 80 _ _ _ _ _ _ ?_
      simp only [sg_X6_digest_0, sg_X6_digest_8, sg_X6_digest_22, sg_X6_digest_57, sg_X6_digest_63, sg_X6_digest_65, sg_X6_digest_139, cd_X6_digest, jwp, o_ic, o_lc, o_iload, o_lload, o_aload, o_istore, o_lstore, o_astore, o_iinc, o_pop, o_dup, o_dup2, o_iadd, o_isub, o_imul, o_iand, o_ior, o_ishl, o_ladd, o_lmul, o_land, o_lor, o_idiv, o_irem, o_ineg, o_i2l, o_l2i, o_i2b, o_i2s, o_lushr, o_lshr, o_lshl, o_lcmp, o_ifeq, o_ifne, o_iflt, o_ifge, o_ifgt, o_ifle, o_iceq, o_icne, o_iclt, o_icge, o_icgt, o_icle, o_goto, o_tsw, jsw, o_lsw, jlk, o_getf, o_putf, o_putz, o_iald, o_zald, o_iast, o_zast, o_aald, o_alen, o_gets, o_zld, o_zlen, o_cpy, o_call, o_callV, o_ireti, o_iretz, o_lret, o_vret, jg, js, jkp, jkill, jsp, jcs, jfw, jov, Value.category, Option.toList_some, Option.toList_none, List.nil_append, List.cons_append, List.append_nil, Nat.reduceAdd, true_and, and_true, jb0, jb01, jb1, jem, true_or, or_true, Classical.not_not, forall_const, List.length_cons, List.length_nil, Nat.reduceLeDiff, Nat.zero_le, Nat.reduceLT, hX, kx_0_0 hX, kx_0_1 hX, kx_0_2 hX, kx_0_3 hX, kx_0_4 hX, kx_0_5 hX, kx_0_6 hX, kx_0_7 hX, kx_0_8 hX, kxo_0 hX, kx_1_0 hX, kx_1_1 hX, kx_1_2 hX, kx_1_3 hX, kxo_1 hX, kx_4_0 hX, kx_4_1 hX, kx_4_2 hX, kxo_4 hX, kx_19_0 hX, kx_19_1 hX, kx_19_2 hX, kx_19_3 hX, kx_19_4 hX, kxo_19 hX, kx_24_0 hX, kx_24_1 hX, kx_24_2 hX, kx_24_3 hX, kx_24_4 hX, kx_24_5 hX, kx_24_6 hX, kxo_24 hX, kxa_2 hX, kxa_3 hX, kxa_6 hX, kxa_7 hX, kxa_8 hX, kxa_9 hX, kxa_10 hX, kxa_18 hX, kxa_20 hX, kxa_21 hX, kxa_22 hX, kxa_23 hX, kxa_26 hX, kxa_27 hX, kxr_5 hX, kxr_11 hX, kxr_28 hX, hcnt, hv, nI_clamp h31, kx_ants h6, kxn_0 hX hai, kxn_1 hX hai, kxn_2 hX hai, kxn_3 hX hai]
      refine ⟨fun q => absurd ((nI_leI (by omega) (by omega)).mp q) (by omega), fun _ => ?_⟩
      rw [nI_1]
      exact h2
  have inner : ∀ y, y < 240 → ∀ n x, x + n = 240 → (G 8 [some (.ref 0), some (.long (dgR (h 2) (dgF (h 2) (239 - y)) (y * 240) 240)), none, some (.int (nI y + -1)), some (.int (nI (y * 240))), some (.int (nI 240))] [] K h 0 0) → G 22 [some (.ref 0), some (.long (dgR (h 2) (dgF (h 2) (239 - y)) (y * 240) x)), none, some (.int (nI y)), some (.int (nI (y * 240))), some (.int (nI x))] [] K h 0 0 := by
    intro y hy n
    induction n with
    | zero =>
      intro x hx hend
      have : x = 240 := by omega
      subst this
      refine H22 60 _ _ _ _ _ _ ?_
      simp only [sg_X6_digest_0, sg_X6_digest_8, sg_X6_digest_22, sg_X6_digest_57, sg_X6_digest_63, sg_X6_digest_65, sg_X6_digest_139, cd_X6_digest, jwp, o_ic, o_lc, o_iload, o_lload, o_aload, o_istore, o_lstore, o_astore, o_iinc, o_pop, o_dup, o_dup2, o_iadd, o_isub, o_imul, o_iand, o_ior, o_ishl, o_ladd, o_lmul, o_land, o_lor, o_idiv, o_irem, o_ineg, o_i2l, o_l2i, o_i2b, o_i2s, o_lushr, o_lshr, o_lshl, o_lcmp, o_ifeq, o_ifne, o_iflt, o_ifge, o_ifgt, o_ifle, o_iceq, o_icne, o_iclt, o_icge, o_icgt, o_icle, o_goto, o_tsw, jsw, o_lsw, jlk, o_getf, o_putf, o_putz, o_iald, o_zald, o_iast, o_zast, o_aald, o_alen, o_gets, o_zld, o_zlen, o_cpy, o_call, o_callV, o_ireti, o_iretz, o_lret, o_vret, jg, js, jkp, jkill, jsp, jcs, jfw, jov, Value.category, Option.toList_some, Option.toList_none, List.nil_append, List.cons_append, List.append_nil, Nat.reduceAdd, true_and, and_true, jb0, jb01, jb1, jem, true_or, or_true, Classical.not_not, forall_const, List.length_cons, List.length_nil, Nat.reduceLeDiff, Nat.zero_le, Nat.reduceLT, hX, kx_0_0 hX, kx_0_1 hX, kx_0_2 hX, kx_0_3 hX, kx_0_4 hX, kx_0_5 hX, kx_0_6 hX, kx_0_7 hX, kx_0_8 hX, kxo_0 hX, kx_1_0 hX, kx_1_1 hX, kx_1_2 hX, kx_1_3 hX, kxo_1 hX, kx_4_0 hX, kx_4_1 hX, kx_4_2 hX, kxo_4 hX, kx_19_0 hX, kx_19_1 hX, kx_19_2 hX, kx_19_3 hX, kx_19_4 hX, kxo_19 hX, kx_24_0 hX, kx_24_1 hX, kx_24_2 hX, kx_24_3 hX, kx_24_4 hX, kx_24_5 hX, kx_24_6 hX, kxo_24 hX, kxa_2 hX, kxa_3 hX, kxa_6 hX, kxa_7 hX, kxa_8 hX, kxa_9 hX, kxa_10 hX, kxa_18 hX, kxa_20 hX, kxa_21 hX, kxa_22 hX, kxa_23 hX, kxa_26 hX, kxa_27 hX, kxr_5 hX, kxr_11 hX, kxr_28 hX]
      rw [e240]
      exact ⟨fun _ => hend, fun q => absurd (Int32.le_refl _) q⟩
    | succ n ih =>
      intro x hx hend
      have h31 : y * 240 + x < 2147483648 := by omega
      have hv : vp_in (nI (y * 240 + x)) 57600 := vp_in_nI (by omega) (by decide)
      have h2 := ih (x + 1) (by omega) hend
      refine H22 60 _ _ _ _ _ _ ?_
      simp only [sg_X6_digest_0, sg_X6_digest_8, sg_X6_digest_22, sg_X6_digest_57, sg_X6_digest_63, sg_X6_digest_65, sg_X6_digest_139, cd_X6_digest, jwp, o_ic, o_lc, o_iload, o_lload, o_aload, o_istore, o_lstore, o_astore, o_iinc, o_pop, o_dup, o_dup2, o_iadd, o_isub, o_imul, o_iand, o_ior, o_ishl, o_ladd, o_lmul, o_land, o_lor, o_idiv, o_irem, o_ineg, o_i2l, o_l2i, o_i2b, o_i2s, o_lushr, o_lshr, o_lshl, o_lcmp, o_ifeq, o_ifne, o_iflt, o_ifge, o_ifgt, o_ifle, o_iceq, o_icne, o_iclt, o_icge, o_icgt, o_icle, o_goto, o_tsw, jsw, o_lsw, jlk, o_getf, o_putf, o_putz, o_iald, o_zald, o_iast, o_zast, o_aald, o_alen, o_gets, o_zld, o_zlen, o_cpy, o_call, o_callV, o_ireti, o_iretz, o_lret, o_vret, jg, js, jkp, jkill, jsp, jcs, jfw, jov, Value.category, Option.toList_some, Option.toList_none, List.nil_append, List.cons_append, List.append_nil, Nat.reduceAdd, true_and, and_true, jb0, jb01, jb1, jem, true_or, or_true, Classical.not_not, forall_const, List.length_cons, List.length_nil, Nat.reduceLeDiff, Nat.zero_le, Nat.reduceLT, hX, kx_0_0 hX, kx_0_1 hX, kx_0_2 hX, kx_0_3 hX, kx_0_4 hX, kx_0_5 hX, kx_0_6 hX, kx_0_7 hX, kx_0_8 hX, kxo_0 hX, kx_1_0 hX, kx_1_1 hX, kx_1_2 hX, kx_1_3 hX, kxo_1 hX, kx_4_0 hX, kx_4_1 hX, kx_4_2 hX, kxo_4 hX, kx_19_0 hX, kx_19_1 hX, kx_19_2 hX, kx_19_3 hX, kx_19_4 hX, kxo_19 hX, kx_24_0 hX, kx_24_1 hX, kx_24_2 hX, kx_24_3 hX, kx_24_4 hX, kx_24_5 hX, kx_24_6 hX, kxo_24 hX, kxa_2 hX, kxa_3 hX, kxa_6 hX, kxa_7 hX, kxa_8 hX, kxa_9 hX, kxa_10 hX, kxa_18 hX, kxa_20 hX, kxa_21 hX, kxa_22 hX, kxa_23 hX, kxa_26 hX, kxa_27 hX, kxr_5 hX, kxr_11 hX, kxr_28 hX, nI_add, hv, nI_clamp h31]
      rw [e240]
      refine ⟨fun q => absurd ((nI_leI (by omega) (by omega)).mp q) (by omega), fun _ => ?_⟩
      rw [nI_1]
      exact h2
  have outer : ∀ y, y ≤ 240 → ∀ x4 x5 : Int32, G 8 [some (.ref 0), some (.long (dgF (h 2) (240 - y))), none, some (.int (nI y + -1)), some (.int x4), some (.int x5)] [] K h 0 0 := by
    intro y
    induction y with
    | zero =>
      intro hy x4 x5
      rw [nI_neg1]
      refine H8 60 _ _ _ _ _ _ ?_
      simp only [sg_X6_digest_0, sg_X6_digest_8, sg_X6_digest_22, sg_X6_digest_57, sg_X6_digest_63, sg_X6_digest_65, sg_X6_digest_139, cd_X6_digest, jwp, o_ic, o_lc, o_iload, o_lload, o_aload, o_istore, o_lstore, o_astore, o_iinc, o_pop, o_dup, o_dup2, o_iadd, o_isub, o_imul, o_iand, o_ior, o_ishl, o_ladd, o_lmul, o_land, o_lor, o_idiv, o_irem, o_ineg, o_i2l, o_l2i, o_i2b, o_i2s, o_lushr, o_lshr, o_lshl, o_lcmp, o_ifeq, o_ifne, o_iflt, o_ifge, o_ifgt, o_ifle, o_iceq, o_icne, o_iclt, o_icge, o_icgt, o_icle, o_goto, o_tsw, jsw, o_lsw, jlk, o_getf, o_putf, o_putz, o_iald, o_zald, o_iast, o_zast, o_aald, o_alen, o_gets, o_zld, o_zlen, o_cpy, o_call, o_callV, o_ireti, o_iretz, o_lret, o_vret, jg, js, jkp, jkill, jsp, jcs, jfw, jov, Value.category, Option.toList_some, Option.toList_none, List.nil_append, List.cons_append, List.append_nil, Nat.reduceAdd, true_and, and_true, jb0, jb01, jb1, jem, true_or, or_true, Classical.not_not, forall_const, List.length_cons, List.length_nil, Nat.reduceLeDiff, Nat.zero_le, Nat.reduceLT, hX, kx_0_0 hX, kx_0_1 hX, kx_0_2 hX, kx_0_3 hX, kx_0_4 hX, kx_0_5 hX, kx_0_6 hX, kx_0_7 hX, kx_0_8 hX, kxo_0 hX, kx_1_0 hX, kx_1_1 hX, kx_1_2 hX, kx_1_3 hX, kxo_1 hX, kx_4_0 hX, kx_4_1 hX, kx_4_2 hX, kxo_4 hX, kx_19_0 hX, kx_19_1 hX, kx_19_2 hX, kx_19_3 hX, kx_19_4 hX, kxo_19 hX, kx_24_0 hX, kx_24_1 hX, kx_24_2 hX, kx_24_3 hX, kx_24_4 hX, kx_24_5 hX, kx_24_6 hX, kxo_24 hX, kxa_2 hX, kxa_3 hX, kxa_6 hX, kxa_7 hX, kxa_8 hX, kxa_9 hX, kxa_10 hX, kxa_18 hX, kxa_20 hX, kxa_21 hX, kxa_22 hX, kxa_23 hX, kxa_26 hX, kxa_27 hX, kxr_5 hX, kxr_11 hX, kxr_28 hX]
      refine ⟨fun _ => ?_, fun q => absurd (by decide) q⟩
      have h2 := ants cnt 0 (by omega) (some (.int x4)) (fun w => by simp) (fun w => by simp) (some (.int x5))
      exact h2
    | succ y ih =>
      intro hy x4 x5
      rw [nI_m1]
      refine H8 60 _ _ _ _ _ _ ?_
      simp only [sg_X6_digest_0, sg_X6_digest_8, sg_X6_digest_22, sg_X6_digest_57, sg_X6_digest_63, sg_X6_digest_65, sg_X6_digest_139, cd_X6_digest, jwp, o_ic, o_lc, o_iload, o_lload, o_aload, o_istore, o_lstore, o_astore, o_iinc, o_pop, o_dup, o_dup2, o_iadd, o_isub, o_imul, o_iand, o_ior, o_ishl, o_ladd, o_lmul, o_land, o_lor, o_idiv, o_irem, o_ineg, o_i2l, o_l2i, o_i2b, o_i2s, o_lushr, o_lshr, o_lshl, o_lcmp, o_ifeq, o_ifne, o_iflt, o_ifge, o_ifgt, o_ifle, o_iceq, o_icne, o_iclt, o_icge, o_icgt, o_icle, o_goto, o_tsw, jsw, o_lsw, jlk, o_getf, o_putf, o_putz, o_iald, o_zald, o_iast, o_zast, o_aald, o_alen, o_gets, o_zld, o_zlen, o_cpy, o_call, o_callV, o_ireti, o_iretz, o_lret, o_vret, jg, js, jkp, jkill, jsp, jcs, jfw, jov, Value.category, Option.toList_some, Option.toList_none, List.nil_append, List.cons_append, List.append_nil, Nat.reduceAdd, true_and, and_true, jb0, jb01, jb1, jem, true_or, or_true, Classical.not_not, forall_const, List.length_cons, List.length_nil, Nat.reduceLeDiff, Nat.zero_le, Nat.reduceLT, hX, kx_0_0 hX, kx_0_1 hX, kx_0_2 hX, kx_0_3 hX, kx_0_4 hX, kx_0_5 hX, kx_0_6 hX, kx_0_7 hX, kx_0_8 hX, kxo_0 hX, kx_1_0 hX, kx_1_1 hX, kx_1_2 hX, kx_1_3 hX, kxo_1 hX, kx_4_0 hX, kx_4_1 hX, kx_4_2 hX, kxo_4 hX, kx_19_0 hX, kx_19_1 hX, kx_19_2 hX, kx_19_3 hX, kx_19_4 hX, kxo_19 hX, kx_24_0 hX, kx_24_1 hX, kx_24_2 hX, kx_24_3 hX, kx_24_4 hX, kx_24_5 hX, kx_24_6 hX, kxo_24 hX, kxa_2 hX, kxa_3 hX, kxa_6 hX, kxa_7 hX, kxa_8 hX, kxa_9 hX, kxa_10 hX, kxa_18 hX, kxa_20 hX, kxa_21 hX, kxa_22 hX, kxa_23 hX, kxa_26 hX, kxa_27 hX, kxr_5 hX, kxr_11 hX, kxr_28 hX]
      refine ⟨fun q => absurd q (nI_pos (by omega)), fun _ => ?_⟩
      rw [e240, nI_mul]
      have e : 240 - (y + 1) = 239 - y := by omega
      rw [e]
      refine inner y (by omega) 240 0 (by omega) ?_
      have h2 := ih (by omega) (nI (y * 240)) (nI 240)
      rw [show 240 - y = (239 - y) + 1 by omega, dgF_s] at h2
      rw [show 239 - (239 - y) = y by omega] at h2
      exact h2
  have start : ∀ x4 x5 : Option Value, G 8 [some (.ref 0), some (.long (dgF (h 2) 0)), none, some (.int (nI 240 + -1)), none, none] [] K h 0 0 := by
    intro x4 x5
    rw [show nI 240 + -1 = nI 239 from rfl]
    refine H8 60 _ _ _ _ _ _ ?_
    simp only [sg_X6_digest_0, sg_X6_digest_8, sg_X6_digest_22, sg_X6_digest_57, sg_X6_digest_63, sg_X6_digest_65, sg_X6_digest_139, cd_X6_digest, jwp, o_ic, o_lc, o_iload, o_lload, o_aload, o_istore, o_lstore, o_astore, o_iinc, o_pop, o_dup, o_dup2, o_iadd, o_isub, o_imul, o_iand, o_ior, o_ishl, o_ladd, o_lmul, o_land, o_lor, o_idiv, o_irem, o_ineg, o_i2l, o_l2i, o_i2b, o_i2s, o_lushr, o_lshr, o_lshl, o_lcmp, o_ifeq, o_ifne, o_iflt, o_ifge, o_ifgt, o_ifle, o_iceq, o_icne, o_iclt, o_icge, o_icgt, o_icle, o_goto, o_tsw, jsw, o_lsw, jlk, o_getf, o_putf, o_putz, o_iald, o_zald, o_iast, o_zast, o_aald, o_alen, o_gets, o_zld, o_zlen, o_cpy, o_call, o_callV, o_ireti, o_iretz, o_lret, o_vret, jg, js, jkp, jkill, jsp, jcs, jfw, jov, Value.category, Option.toList_some, Option.toList_none, List.nil_append, List.cons_append, List.append_nil, Nat.reduceAdd, true_and, and_true, jb0, jb01, jb1, jem, true_or, or_true, Classical.not_not, forall_const, List.length_cons, List.length_nil, Nat.reduceLeDiff, Nat.zero_le, Nat.reduceLT, hX, kx_0_0 hX, kx_0_1 hX, kx_0_2 hX, kx_0_3 hX, kx_0_4 hX, kx_0_5 hX, kx_0_6 hX, kx_0_7 hX, kx_0_8 hX, kxo_0 hX, kx_1_0 hX, kx_1_1 hX, kx_1_2 hX, kx_1_3 hX, kxo_1 hX, kx_4_0 hX, kx_4_1 hX, kx_4_2 hX, kxo_4 hX, kx_19_0 hX, kx_19_1 hX, kx_19_2 hX, kx_19_3 hX, kx_19_4 hX, kxo_19 hX, kx_24_0 hX, kx_24_1 hX, kx_24_2 hX, kx_24_3 hX, kx_24_4 hX, kx_24_5 hX, kx_24_6 hX, kxo_24 hX, kxa_2 hX, kxa_3 hX, kxa_6 hX, kxa_7 hX, kxa_8 hX, kxa_9 hX, kxa_10 hX, kxa_18 hX, kxa_20 hX, kxa_21 hX, kxa_22 hX, kxa_23 hX, kxa_26 hX, kxa_27 hX, kxr_5 hX, kxr_11 hX, kxr_28 hX]
    refine ⟨fun q => absurd q (nI_pos (by omega)), fun _ => ?_⟩
    rw [e240, nI_mul]
    refine inner 239 (by omega) 240 0 (by omega) ?_
    have h2 := outer 239 (by omega) (nI (239 * 240)) (nI 240)
    rw [show 240 - 239 = 0 + 1 from rfl, dgF_s] at h2
    exact h2
  refine H0 40 _ _ _ _ _ _ ?_
  simp only [sg_X6_digest_0, sg_X6_digest_8, sg_X6_digest_22, sg_X6_digest_57, sg_X6_digest_63, sg_X6_digest_65, sg_X6_digest_139, cd_X6_digest, jwp, o_ic, o_lc, o_iload, o_lload, o_aload, o_istore, o_lstore, o_astore, o_iinc, o_pop, o_dup, o_dup2, o_iadd, o_isub, o_imul, o_iand, o_ior, o_ishl, o_ladd, o_lmul, o_land, o_lor, o_idiv, o_irem, o_ineg, o_i2l, o_l2i, o_i2b, o_i2s, o_lushr, o_lshr, o_lshl, o_lcmp, o_ifeq, o_ifne, o_iflt, o_ifge, o_ifgt, o_ifle, o_iceq, o_icne, o_iclt, o_icge, o_icgt, o_icle, o_goto, o_tsw, jsw, o_lsw, jlk, o_getf, o_putf, o_putz, o_iald, o_zald, o_iast, o_zast, o_aald, o_alen, o_gets, o_zld, o_zlen, o_cpy, o_call, o_callV, o_ireti, o_iretz, o_lret, o_vret, jg, js, jkp, jkill, jsp, jcs, jfw, jov, Value.category, Option.toList_some, Option.toList_none, List.nil_append, List.cons_append, List.append_nil, Nat.reduceAdd, true_and, and_true, jb0, jb01, jb1, jem, true_or, or_true, Classical.not_not, forall_const, List.length_cons, List.length_nil, Nat.reduceLeDiff, Nat.zero_le, Nat.reduceLT, hX, kx_0_0 hX, kx_0_1 hX, kx_0_2 hX, kx_0_3 hX, kx_0_4 hX, kx_0_5 hX, kx_0_6 hX, kx_0_7 hX, kx_0_8 hX, kxo_0 hX, kx_1_0 hX, kx_1_1 hX, kx_1_2 hX, kx_1_3 hX, kxo_1 hX, kx_4_0 hX, kx_4_1 hX, kx_4_2 hX, kxo_4 hX, kx_19_0 hX, kx_19_1 hX, kx_19_2 hX, kx_19_3 hX, kx_19_4 hX, kxo_19 hX, kx_24_0 hX, kx_24_1 hX, kx_24_2 hX, kx_24_3 hX, kx_24_4 hX, kx_24_5 hX, kx_24_6 hX, kxo_24 hX, kxa_2 hX, kxa_3 hX, kxa_6 hX, kxa_7 hX, kxa_8 hX, kxa_9 hX, kxa_10 hX, kxa_18 hX, kxa_20 hX, kxa_21 hX, kxa_22 hX, kxa_23 hX, kxa_26 hX, kxa_27 hX, kxr_5 hX, kxr_11 hX, kxr_28 hX]
  rw [e239]
  exact start none none
theorem m_X6_digest (l : Launch) : jHolds vwCl l yX6_digest wsX6_digest 0 0 0 0 T_X6_digest := by
  refine m_X6_digest_of l (fun G Q vs K h H0 H8 H22 H65 hT => ?_)
  unfold T_X6_digest at hT
  split at hT
  · obtain ⟨rfl, hT⟩ := hT
    exact ⟨Nat.le_of_ble_eq_true rfl, v_X6_digest hT H0 H8 H22 H65⟩
  · exact hT.elim
