/-! ===== digest and roads of the reference ===== -/
def mAnt (h : jM) (i : Nat) : Nat → Int32
  | 0 => h 42 i
  | 1 => h 43 i
  | 2 => h 44 i
  | _ => h 45 i
theorem oI_int {X : Nat} (hX : X ≤ 1000) : (nI X + -120).toInt = (X : Int) - 120 := by
  have e1 : (nI X).toInt = (X : Int) := nI_toInt (by omega)
  have e2 : (-120 : Int32).toInt = -120 := rfl
  rw [ti_add (by rw [e1, e2]; omega) (by rw [e1, e2]; omega), e1, e2]; omega
theorem oI_on {X Y : Nat} (hX : X < 240) (hY : Y < 240) : onF (nI X + -120) (nI Y + -120) := by
  have e1 := oI_int (X := X) (by omega)
  have e2 := oI_int (X := Y) (by omega)
  exact onF_of ⟨⟨by omega, by omega⟩, by omega, by omega⟩
theorem oI_jpl {X Y : Nat} (hX : X < 240) (hY : Y < 240) : jpl (nI X + -120) (nI Y + -120) = nI (Y * 240 + X) := by
  have e1 := oI_int (X := X) (by omega)
  have e2 := oI_int (X := Y) (by omega)
  apply Int32.toInt_inj.mp
  rw [jpl_int (oI_on hX hY), e1, e2, nI_toInt (show Y * 240 + X < 2 ^ 31 by omega)]
  omega

/-! X7_digest -/
def T_X7_digest : jT := fun vs K h Q => match vs with
  | [.ref r0] => r0 = 37 ∧ (jXM K ∧ (∃ cnt : Nat, cnt ≤ 6 ∧ h 37 8 = nI cnt ∧ Q (some (.long (dgA (mAnt h) (dgF (h 38) 240) cnt))) K h))
  | _ => False
def sg_X7_digest_0 : jS := [(o_lc (7), 3), (o_lstore 1, 1), (o_ic (119), 2), (o_istore 3, 1)]
def sg_X7_digest_7 : jS := [(o_iload 3, 1), (o_ic (-120), 2), (o_iclt 55, 3), (o_ic (-120), 2), (o_istore 4, 2)]
def sg_X7_digest_17 : jS := [(o_iload 4, 2), (o_ic (120), 2), (o_icge 49, 3), (o_lc (31), 3), (o_lload 1, 1), (o_lmul, 1), (o_aload 0, 1), (o_getf 7 2, 3), (o_iload 4, 2), (o_iload 3, 1), (o_call 2 T_X7_cell, 3), (o_iald, 1), (o_i2l, 1), (o_ladd, 1), (o_lstore 1, 1), (o_iinc 4 (1), 3), (o_goto 17, 3)]
def sg_X7_digest_49 : jS := [(o_iinc 3 (-1), 3), (o_goto 7, 3)]
def sg_X7_digest_55 : jS := [(o_ic (0), 1), (o_istore 3, 1)]
def sg_X7_digest_57 : jS := [(o_iload 3, 1), (o_aload 0, 1), (o_getf 7 8, 3), (o_icge 127, 3), (o_lc (31), 3), (o_lload 1, 1), (o_lmul, 1), (o_aload 0, 1), (o_getf 7 9, 3), (o_iload 3, 1), (o_iald, 1), (o_i2l, 1), (o_ladd, 1), (o_lstore 1, 1), (o_lc (31), 3), (o_lload 1, 1), (o_lmul, 1), (o_aload 0, 1), (o_getf 7 10, 3), (o_iload 3, 1), (o_iald, 1), (o_i2l, 1), (o_ladd, 1), (o_lstore 1, 1), (o_lc (31), 3), (o_lload 1, 1), (o_lmul, 1), (o_aload 0, 1), (o_getf 7 11, 3), (o_iload 3, 1), (o_iald, 1), (o_i2l, 1), (o_ladd, 1), (o_lstore 1, 1), (o_lc (31), 3), (o_lload 1, 1), (o_lmul, 1), (o_aload 0, 1), (o_getf 7 12, 3), (o_iload 3, 1), (o_iald, 1), (o_i2l, 1), (o_ladd, 1), (o_lstore 1, 1), (o_iinc 3 (1), 3), (o_goto 57, 3)]
def sg_X7_digest_127 : jS := [(o_lload 1, 1), (o_lret, 1)]
def cd_X7_digest : Nat → jS := fun t => match t with
  | 55 => sg_X7_digest_55
  | 127 => sg_X7_digest_127
  | _ => []
theorem wl_X7_digest_14 : Cond.fieldLink RX7 14 (TX7 2).1 (TX7 2).2.1 (TX7 2).2.2.1 ∈ wsX7_digest := by decide +kernel
theorem wl_X7_digest_27 : Cond.fieldLink RX7 27 (TX7 9).1 (TX7 9).2.1 (TX7 9).2.2.1 ∈ wsX7_digest := by decide +kernel
theorem wl_X7_digest_30 : Cond.fieldLink RX7 30 (TX7 10).1 (TX7 10).2.1 (TX7 10).2.2.1 ∈ wsX7_digest := by decide +kernel
theorem wl_X7_digest_33 : Cond.fieldLink RX7 33 (TX7 11).1 (TX7 11).2.1 (TX7 11).2.2.1 ∈ wsX7_digest := by decide +kernel
theorem wl_X7_digest_36 : Cond.fieldLink RX7 36 (TX7 12).1 (TX7 12).2.1 (TX7 12).2.2.1 ∈ wsX7_digest := by decide +kernel
theorem wl_X7_digest_81 : Cond.fieldLink RX7 81 (TX7 8).1 (TX7 8).2.1 (TX7 8).2.2.1 ∈ wsX7_digest := by decide +kernel
theorem wi_X7_digest_X7 : ∀ w ∈ u_ws RX7 TX7 33, w ∈ wsX7_digest := by decide +kernel
def E_X7_digest (Γ : jΓ) (Q : jPost) : Prop := Γ.2.2.2.2.2.2.2.2.2.2.1 = 5 ∧ Γ.2.2.2.2.2.2.2.2.2.2.2.1 = vwCl ∧ jC Γ cX7_digest RX7 "digest" (some .long) wsX7_digest 1 21 0 0 ∧ jR Γ Q 0 0
theorem oo_X7_digest_0 {Γ : jΓ} {Q : jPost} (E : E_X7_digest Γ Q) : jSA Γ Q 0 (o_lc (7)) 3 := so_ldc2 E.2.2.1 (by decide +kernel) dX7_digest_0
theorem oo_X7_digest_3 {Γ : jΓ} {Q : jPost} (E : E_X7_digest Γ Q) : jSA Γ Q 3 (o_lstore 1) 1 := so_lstore_n E.2.2.1 rfl (by rw [E.1]; decide) dX7_digest_3
theorem oo_X7_digest_4 {Γ : jΓ} {Q : jPost} (E : E_X7_digest Γ Q) : jSA Γ Q 4 (o_ic (119)) 2 := so_bipush E.2.2.1 rfl dX7_digest_4
theorem oo_X7_digest_6 {Γ : jΓ} {Q : jPost} (E : E_X7_digest Γ Q) : jSA Γ Q 6 (o_istore 3) 1 := so_istore_n E.2.2.1 rfl (by rw [E.1]; decide) dX7_digest_6
theorem oo_X7_digest_7 {Γ : jΓ} {Q : jPost} (E : E_X7_digest Γ Q) : jSA Γ Q 7 (o_iload 3) 1 := so_iload_n E.2.2.1 rfl dX7_digest_7
theorem oo_X7_digest_8 {Γ : jΓ} {Q : jPost} (E : E_X7_digest Γ Q) : jSA Γ Q 8 (o_ic (-120)) 2 := so_bipush E.2.2.1 rfl dX7_digest_8
theorem oo_X7_digest_10 {Γ : jΓ} {Q : jPost} (E : E_X7_digest Γ Q) : jSA Γ Q 10 (o_iclt 55) 3 := so_iclt E.2.2.1 (by decide) dX7_digest_10
theorem oo_X7_digest_13 {Γ : jΓ} {Q : jPost} (E : E_X7_digest Γ Q) : jSA Γ Q 13 (o_ic (-120)) 2 := so_bipush E.2.2.1 rfl dX7_digest_13
theorem oo_X7_digest_15 {Γ : jΓ} {Q : jPost} (E : E_X7_digest Γ Q) : jSA Γ Q 15 (o_istore 4) 2 := so_istore E.2.2.1 (by rw [E.1]; decide) dX7_digest_15
theorem oo_X7_digest_17 {Γ : jΓ} {Q : jPost} (E : E_X7_digest Γ Q) : jSA Γ Q 17 (o_iload 4) 2 := so_iload E.2.2.1 dX7_digest_17
theorem oo_X7_digest_19 {Γ : jΓ} {Q : jPost} (E : E_X7_digest Γ Q) : jSA Γ Q 19 (o_ic (120)) 2 := so_bipush E.2.2.1 rfl dX7_digest_19
theorem oo_X7_digest_21 {Γ : jΓ} {Q : jPost} (E : E_X7_digest Γ Q) : jSA Γ Q 21 (o_icge 49) 3 := so_icge E.2.2.1 (by decide) dX7_digest_21
theorem oo_X7_digest_24 {Γ : jΓ} {Q : jPost} (E : E_X7_digest Γ Q) : jSA Γ Q 24 (o_lc (31)) 3 := so_ldc2 E.2.2.1 (by decide +kernel) dX7_digest_24
theorem oo_X7_digest_27 {Γ : jΓ} {Q : jPost} (E : E_X7_digest Γ Q) : jSA Γ Q 27 (o_lload 1) 1 := so_lload_n E.2.2.1 rfl dX7_digest_27
theorem oo_X7_digest_28 {Γ : jΓ} {Q : jPost} (E : E_X7_digest Γ Q) : jSA Γ Q 28 (o_lmul) 1 := so_lmul E.2.2.1 dX7_digest_28
theorem oo_X7_digest_29 {Γ : jΓ} {Q : jPost} (E : E_X7_digest Γ Q) : jSA Γ Q 29 (o_aload 0) 1 := so_aload_n E.2.2.1 rfl dX7_digest_29
theorem oo_X7_digest_30 {Γ : jΓ} {Q : jPost} (E : E_X7_digest Γ Q) : jSA Γ Q 30 (o_getf 7 2) 3 := so_getf (ci := 7) E.2.2.1 wi_X7_digest_X7 (by rw [E.2.1]; rfl) 2 (by decide) wl_X7_digest_14 dX7_digest_30
theorem oo_X7_digest_33 {Γ : jΓ} {Q : jPost} (E : E_X7_digest Γ Q) : jSA Γ Q 33 (o_iload 4) 2 := so_iload E.2.2.1 dX7_digest_33
theorem oo_X7_digest_35 {Γ : jΓ} {Q : jPost} (E : E_X7_digest Γ Q) : jSA Γ Q 35 (o_iload 3) 1 := so_iload_n E.2.2.1 rfl dX7_digest_35
theorem oo_X7_digest_36 {Γ : jΓ} {Q : jPost} (E : E_X7_digest Γ Q) : jSA Γ Q 36 (o_call 2 T_X7_cell) 3 := so_callS E.2.2.1 gX7_digest_X7_cell (by decide +kernel) rfl (by rw [E.2.1]; exact m_X7_cell _) (by decide) (by decide) dX7_digest_36
theorem oo_X7_digest_39 {Γ : jΓ} {Q : jPost} (E : E_X7_digest Γ Q) : jSA Γ Q 39 (o_iald) 1 := so_iald E.2.2.1 dX7_digest_39
theorem oo_X7_digest_40 {Γ : jΓ} {Q : jPost} (E : E_X7_digest Γ Q) : jSA Γ Q 40 (o_i2l) 1 := so_i2l E.2.2.1 dX7_digest_40
theorem oo_X7_digest_41 {Γ : jΓ} {Q : jPost} (E : E_X7_digest Γ Q) : jSA Γ Q 41 (o_ladd) 1 := so_ladd E.2.2.1 dX7_digest_41
theorem oo_X7_digest_42 {Γ : jΓ} {Q : jPost} (E : E_X7_digest Γ Q) : jSA Γ Q 42 (o_lstore 1) 1 := so_lstore_n E.2.2.1 rfl (by rw [E.1]; decide) dX7_digest_42
theorem oo_X7_digest_43 {Γ : jΓ} {Q : jPost} (E : E_X7_digest Γ Q) : jSA Γ Q 43 (o_iinc 4 (1)) 3 := so_iinc E.2.2.1 rfl (by rw [E.1]; decide) dX7_digest_43
theorem oo_X7_digest_46 {Γ : jΓ} {Q : jPost} (E : E_X7_digest Γ Q) : jSA Γ Q 46 (o_goto 17) 3 := so_goto E.2.2.1 (by decide) dX7_digest_46
theorem oo_X7_digest_49 {Γ : jΓ} {Q : jPost} (E : E_X7_digest Γ Q) : jSA Γ Q 49 (o_iinc 3 (-1)) 3 := so_iinc E.2.2.1 rfl (by rw [E.1]; decide) dX7_digest_49
theorem oo_X7_digest_52 {Γ : jΓ} {Q : jPost} (E : E_X7_digest Γ Q) : jSA Γ Q 52 (o_goto 7) 3 := so_goto E.2.2.1 (by decide) dX7_digest_52
theorem oo_X7_digest_55 {Γ : jΓ} {Q : jPost} (E : E_X7_digest Γ Q) : jSA Γ Q 55 (o_ic (0)) 1 := so_iconst E.2.2.1 rfl dX7_digest_55
theorem oo_X7_digest_56 {Γ : jΓ} {Q : jPost} (E : E_X7_digest Γ Q) : jSA Γ Q 56 (o_istore 3) 1 := so_istore_n E.2.2.1 rfl (by rw [E.1]; decide) dX7_digest_56
theorem oo_X7_digest_57 {Γ : jΓ} {Q : jPost} (E : E_X7_digest Γ Q) : jSA Γ Q 57 (o_iload 3) 1 := so_iload_n E.2.2.1 rfl dX7_digest_57
theorem oo_X7_digest_58 {Γ : jΓ} {Q : jPost} (E : E_X7_digest Γ Q) : jSA Γ Q 58 (o_aload 0) 1 := so_aload_n E.2.2.1 rfl dX7_digest_58
theorem oo_X7_digest_59 {Γ : jΓ} {Q : jPost} (E : E_X7_digest Γ Q) : jSA Γ Q 59 (o_getf 7 8) 3 := so_getf (ci := 7) E.2.2.1 wi_X7_digest_X7 (by rw [E.2.1]; rfl) 8 (by decide) wl_X7_digest_81 dX7_digest_59
theorem oo_X7_digest_62 {Γ : jΓ} {Q : jPost} (E : E_X7_digest Γ Q) : jSA Γ Q 62 (o_icge 127) 3 := so_icge E.2.2.1 (by decide) dX7_digest_62
theorem oo_X7_digest_65 {Γ : jΓ} {Q : jPost} (E : E_X7_digest Γ Q) : jSA Γ Q 65 (o_lc (31)) 3 := so_ldc2 E.2.2.1 (by decide +kernel) dX7_digest_65
theorem oo_X7_digest_68 {Γ : jΓ} {Q : jPost} (E : E_X7_digest Γ Q) : jSA Γ Q 68 (o_lload 1) 1 := so_lload_n E.2.2.1 rfl dX7_digest_68
theorem oo_X7_digest_69 {Γ : jΓ} {Q : jPost} (E : E_X7_digest Γ Q) : jSA Γ Q 69 (o_lmul) 1 := so_lmul E.2.2.1 dX7_digest_69
theorem oo_X7_digest_70 {Γ : jΓ} {Q : jPost} (E : E_X7_digest Γ Q) : jSA Γ Q 70 (o_aload 0) 1 := so_aload_n E.2.2.1 rfl dX7_digest_70
theorem oo_X7_digest_71 {Γ : jΓ} {Q : jPost} (E : E_X7_digest Γ Q) : jSA Γ Q 71 (o_getf 7 9) 3 := so_getf (ci := 7) E.2.2.1 wi_X7_digest_X7 (by rw [E.2.1]; rfl) 9 (by decide) wl_X7_digest_27 dX7_digest_71
theorem oo_X7_digest_74 {Γ : jΓ} {Q : jPost} (E : E_X7_digest Γ Q) : jSA Γ Q 74 (o_iload 3) 1 := so_iload_n E.2.2.1 rfl dX7_digest_74
theorem oo_X7_digest_75 {Γ : jΓ} {Q : jPost} (E : E_X7_digest Γ Q) : jSA Γ Q 75 (o_iald) 1 := so_iald E.2.2.1 dX7_digest_75
theorem oo_X7_digest_76 {Γ : jΓ} {Q : jPost} (E : E_X7_digest Γ Q) : jSA Γ Q 76 (o_i2l) 1 := so_i2l E.2.2.1 dX7_digest_76
theorem oo_X7_digest_77 {Γ : jΓ} {Q : jPost} (E : E_X7_digest Γ Q) : jSA Γ Q 77 (o_ladd) 1 := so_ladd E.2.2.1 dX7_digest_77
theorem oo_X7_digest_78 {Γ : jΓ} {Q : jPost} (E : E_X7_digest Γ Q) : jSA Γ Q 78 (o_lstore 1) 1 := so_lstore_n E.2.2.1 rfl (by rw [E.1]; decide) dX7_digest_78
theorem oo_X7_digest_79 {Γ : jΓ} {Q : jPost} (E : E_X7_digest Γ Q) : jSA Γ Q 79 (o_lc (31)) 3 := so_ldc2 E.2.2.1 (by decide +kernel) dX7_digest_79
theorem oo_X7_digest_82 {Γ : jΓ} {Q : jPost} (E : E_X7_digest Γ Q) : jSA Γ Q 82 (o_lload 1) 1 := so_lload_n E.2.2.1 rfl dX7_digest_82
theorem oo_X7_digest_83 {Γ : jΓ} {Q : jPost} (E : E_X7_digest Γ Q) : jSA Γ Q 83 (o_lmul) 1 := so_lmul E.2.2.1 dX7_digest_83
theorem oo_X7_digest_84 {Γ : jΓ} {Q : jPost} (E : E_X7_digest Γ Q) : jSA Γ Q 84 (o_aload 0) 1 := so_aload_n E.2.2.1 rfl dX7_digest_84
theorem oo_X7_digest_85 {Γ : jΓ} {Q : jPost} (E : E_X7_digest Γ Q) : jSA Γ Q 85 (o_getf 7 10) 3 := so_getf (ci := 7) E.2.2.1 wi_X7_digest_X7 (by rw [E.2.1]; rfl) 10 (by decide) wl_X7_digest_30 dX7_digest_85
theorem oo_X7_digest_88 {Γ : jΓ} {Q : jPost} (E : E_X7_digest Γ Q) : jSA Γ Q 88 (o_iload 3) 1 := so_iload_n E.2.2.1 rfl dX7_digest_88
theorem oo_X7_digest_89 {Γ : jΓ} {Q : jPost} (E : E_X7_digest Γ Q) : jSA Γ Q 89 (o_iald) 1 := so_iald E.2.2.1 dX7_digest_89
theorem oo_X7_digest_90 {Γ : jΓ} {Q : jPost} (E : E_X7_digest Γ Q) : jSA Γ Q 90 (o_i2l) 1 := so_i2l E.2.2.1 dX7_digest_90
theorem oo_X7_digest_91 {Γ : jΓ} {Q : jPost} (E : E_X7_digest Γ Q) : jSA Γ Q 91 (o_ladd) 1 := so_ladd E.2.2.1 dX7_digest_91
theorem oo_X7_digest_92 {Γ : jΓ} {Q : jPost} (E : E_X7_digest Γ Q) : jSA Γ Q 92 (o_lstore 1) 1 := so_lstore_n E.2.2.1 rfl (by rw [E.1]; decide) dX7_digest_92
theorem oo_X7_digest_93 {Γ : jΓ} {Q : jPost} (E : E_X7_digest Γ Q) : jSA Γ Q 93 (o_lc (31)) 3 := so_ldc2 E.2.2.1 (by decide +kernel) dX7_digest_93
theorem oo_X7_digest_96 {Γ : jΓ} {Q : jPost} (E : E_X7_digest Γ Q) : jSA Γ Q 96 (o_lload 1) 1 := so_lload_n E.2.2.1 rfl dX7_digest_96
theorem oo_X7_digest_97 {Γ : jΓ} {Q : jPost} (E : E_X7_digest Γ Q) : jSA Γ Q 97 (o_lmul) 1 := so_lmul E.2.2.1 dX7_digest_97
theorem oo_X7_digest_98 {Γ : jΓ} {Q : jPost} (E : E_X7_digest Γ Q) : jSA Γ Q 98 (o_aload 0) 1 := so_aload_n E.2.2.1 rfl dX7_digest_98
theorem oo_X7_digest_99 {Γ : jΓ} {Q : jPost} (E : E_X7_digest Γ Q) : jSA Γ Q 99 (o_getf 7 11) 3 := so_getf (ci := 7) E.2.2.1 wi_X7_digest_X7 (by rw [E.2.1]; rfl) 11 (by decide) wl_X7_digest_33 dX7_digest_99
theorem oo_X7_digest_102 {Γ : jΓ} {Q : jPost} (E : E_X7_digest Γ Q) : jSA Γ Q 102 (o_iload 3) 1 := so_iload_n E.2.2.1 rfl dX7_digest_102
theorem oo_X7_digest_103 {Γ : jΓ} {Q : jPost} (E : E_X7_digest Γ Q) : jSA Γ Q 103 (o_iald) 1 := so_iald E.2.2.1 dX7_digest_103
theorem oo_X7_digest_104 {Γ : jΓ} {Q : jPost} (E : E_X7_digest Γ Q) : jSA Γ Q 104 (o_i2l) 1 := so_i2l E.2.2.1 dX7_digest_104
theorem oo_X7_digest_105 {Γ : jΓ} {Q : jPost} (E : E_X7_digest Γ Q) : jSA Γ Q 105 (o_ladd) 1 := so_ladd E.2.2.1 dX7_digest_105
theorem oo_X7_digest_106 {Γ : jΓ} {Q : jPost} (E : E_X7_digest Γ Q) : jSA Γ Q 106 (o_lstore 1) 1 := so_lstore_n E.2.2.1 rfl (by rw [E.1]; decide) dX7_digest_106
theorem oo_X7_digest_107 {Γ : jΓ} {Q : jPost} (E : E_X7_digest Γ Q) : jSA Γ Q 107 (o_lc (31)) 3 := so_ldc2 E.2.2.1 (by decide +kernel) dX7_digest_107
theorem oo_X7_digest_110 {Γ : jΓ} {Q : jPost} (E : E_X7_digest Γ Q) : jSA Γ Q 110 (o_lload 1) 1 := so_lload_n E.2.2.1 rfl dX7_digest_110
theorem oo_X7_digest_111 {Γ : jΓ} {Q : jPost} (E : E_X7_digest Γ Q) : jSA Γ Q 111 (o_lmul) 1 := so_lmul E.2.2.1 dX7_digest_111
theorem oo_X7_digest_112 {Γ : jΓ} {Q : jPost} (E : E_X7_digest Γ Q) : jSA Γ Q 112 (o_aload 0) 1 := so_aload_n E.2.2.1 rfl dX7_digest_112
theorem oo_X7_digest_113 {Γ : jΓ} {Q : jPost} (E : E_X7_digest Γ Q) : jSA Γ Q 113 (o_getf 7 12) 3 := so_getf (ci := 7) E.2.2.1 wi_X7_digest_X7 (by rw [E.2.1]; rfl) 12 (by decide) wl_X7_digest_36 dX7_digest_113
theorem oo_X7_digest_116 {Γ : jΓ} {Q : jPost} (E : E_X7_digest Γ Q) : jSA Γ Q 116 (o_iload 3) 1 := so_iload_n E.2.2.1 rfl dX7_digest_116
theorem oo_X7_digest_117 {Γ : jΓ} {Q : jPost} (E : E_X7_digest Γ Q) : jSA Γ Q 117 (o_iald) 1 := so_iald E.2.2.1 dX7_digest_117
theorem oo_X7_digest_118 {Γ : jΓ} {Q : jPost} (E : E_X7_digest Γ Q) : jSA Γ Q 118 (o_i2l) 1 := so_i2l E.2.2.1 dX7_digest_118
theorem oo_X7_digest_119 {Γ : jΓ} {Q : jPost} (E : E_X7_digest Γ Q) : jSA Γ Q 119 (o_ladd) 1 := so_ladd E.2.2.1 dX7_digest_119
theorem oo_X7_digest_120 {Γ : jΓ} {Q : jPost} (E : E_X7_digest Γ Q) : jSA Γ Q 120 (o_lstore 1) 1 := so_lstore_n E.2.2.1 rfl (by rw [E.1]; decide) dX7_digest_120
theorem oo_X7_digest_121 {Γ : jΓ} {Q : jPost} (E : E_X7_digest Γ Q) : jSA Γ Q 121 (o_iinc 3 (1)) 3 := so_iinc E.2.2.1 rfl (by rw [E.1]; decide) dX7_digest_121
theorem oo_X7_digest_124 {Γ : jΓ} {Q : jPost} (E : E_X7_digest Γ Q) : jSA Γ Q 124 (o_goto 57) 3 := so_goto E.2.2.1 (by decide) dX7_digest_124
theorem oo_X7_digest_127 {Γ : jΓ} {Q : jPost} (E : E_X7_digest Γ Q) : jSA Γ Q 127 (o_lload 1) 1 := so_lload_n E.2.2.1 rfl dX7_digest_127
theorem oo_X7_digest_128 {Γ : jΓ} {Q : jPost} (E : E_X7_digest Γ Q) : jSA Γ Q 128 (o_lret) 1 := so_lret E.2.2.1 E.2.2.2 dX7_digest_128
theorem ok_X7_digest_0 {Γ : jΓ} {Q : jPost} (E : E_X7_digest Γ Q) : jSS Γ Q 0 sg_X7_digest_0 := ⟨oo_X7_digest_0 E, oo_X7_digest_3 E, oo_X7_digest_4 E, oo_X7_digest_6 E, trivial⟩
theorem ok_X7_digest_7 {Γ : jΓ} {Q : jPost} (E : E_X7_digest Γ Q) : jSS Γ Q 7 sg_X7_digest_7 := ⟨oo_X7_digest_7 E, oo_X7_digest_8 E, oo_X7_digest_10 E, oo_X7_digest_13 E, oo_X7_digest_15 E, trivial⟩
theorem ok_X7_digest_17 {Γ : jΓ} {Q : jPost} (E : E_X7_digest Γ Q) : jSS Γ Q 17 sg_X7_digest_17 := ⟨oo_X7_digest_17 E, oo_X7_digest_19 E, oo_X7_digest_21 E, oo_X7_digest_24 E, oo_X7_digest_27 E, oo_X7_digest_28 E, oo_X7_digest_29 E, oo_X7_digest_30 E, oo_X7_digest_33 E, oo_X7_digest_35 E, oo_X7_digest_36 E, oo_X7_digest_39 E, oo_X7_digest_40 E, oo_X7_digest_41 E, oo_X7_digest_42 E, oo_X7_digest_43 E, oo_X7_digest_46 E, trivial⟩
theorem ok_X7_digest_49 {Γ : jΓ} {Q : jPost} (E : E_X7_digest Γ Q) : jSS Γ Q 49 sg_X7_digest_49 := ⟨oo_X7_digest_49 E, oo_X7_digest_52 E, trivial⟩
theorem ok_X7_digest_55 {Γ : jΓ} {Q : jPost} (E : E_X7_digest Γ Q) : jSS Γ Q 55 sg_X7_digest_55 := ⟨oo_X7_digest_55 E, oo_X7_digest_56 E, trivial⟩
theorem ok_X7_digest_57 {Γ : jΓ} {Q : jPost} (E : E_X7_digest Γ Q) : jSS Γ Q 57 sg_X7_digest_57 := ⟨oo_X7_digest_57 E, oo_X7_digest_58 E, oo_X7_digest_59 E, oo_X7_digest_62 E, oo_X7_digest_65 E, oo_X7_digest_68 E, oo_X7_digest_69 E, oo_X7_digest_70 E, oo_X7_digest_71 E, oo_X7_digest_74 E, oo_X7_digest_75 E, oo_X7_digest_76 E, oo_X7_digest_77 E, oo_X7_digest_78 E, oo_X7_digest_79 E, oo_X7_digest_82 E, oo_X7_digest_83 E, oo_X7_digest_84 E, oo_X7_digest_85 E, oo_X7_digest_88 E, oo_X7_digest_89 E, oo_X7_digest_90 E, oo_X7_digest_91 E, oo_X7_digest_92 E, oo_X7_digest_93 E, oo_X7_digest_96 E, oo_X7_digest_97 E, oo_X7_digest_98 E, oo_X7_digest_99 E, oo_X7_digest_102 E, oo_X7_digest_103 E, oo_X7_digest_104 E, oo_X7_digest_105 E, oo_X7_digest_106 E, oo_X7_digest_107 E, oo_X7_digest_110 E, oo_X7_digest_111 E, oo_X7_digest_112 E, oo_X7_digest_113 E, oo_X7_digest_116 E, oo_X7_digest_117 E, oo_X7_digest_118 E, oo_X7_digest_119 E, oo_X7_digest_120 E, oo_X7_digest_121 E, oo_X7_digest_124 E, trivial⟩
theorem ok_X7_digest_127 {Γ : jΓ} {Q : jPost} (E : E_X7_digest Γ Q) : jSS Γ Q 127 sg_X7_digest_127 := ⟨oo_X7_digest_127 E, oo_X7_digest_128 E, trivial⟩
theorem okc_X7_digest {Γ : jΓ} {Q : jPost} (E : E_X7_digest Γ Q) (t : Nat) : jSS Γ Q t (cd_X7_digest t) := by
  unfold cd_X7_digest
  split
  · exact ok_X7_digest_55 E
  · exact ok_X7_digest_127 E
  · trivial
theorem m_X7_digest_of (l : Launch) (hv : ∀ (G : jGt) (Q : jPost) (vs : List Value) (K : List jK) (h : jM), jHd cd_X7_digest G Q sg_X7_digest_0 0 → jHd cd_X7_digest G Q sg_X7_digest_7 7 → jHd cd_X7_digest G Q sg_X7_digest_17 17 → jHd cd_X7_digest G Q sg_X7_digest_49 49 → jHd cd_X7_digest G Q sg_X7_digest_57 57 → T_X7_digest vs K h Q → (lg_sl vs).length ≤ 5 ∧ G 0 (jinit vs 5) [] K h 0 0) : jHolds vwCl l yX7_digest wsX7_digest 1 21 0 0 T_X7_digest := by
  refine jMet (cc := cX7_digest) (maxL := 5) (rt := (some .long)) (by decide +kernel) rfl (fun Γ Q vs K h hl hn hcl C hR hT => hv (jG Γ) Q vs K h ?_ ?_ ?_ ?_ ?_ hT)
  · exact fun n L st K h ce sl => jwp_ok (okc_X7_digest ⟨hn, hcl, C, hR⟩) n sg_X7_digest_0 0 (ok_X7_digest_0 ⟨hn, hcl, C, hR⟩) L st K h ce sl
  · exact fun n L st K h ce sl => jwp_ok (okc_X7_digest ⟨hn, hcl, C, hR⟩) n sg_X7_digest_7 7 (ok_X7_digest_7 ⟨hn, hcl, C, hR⟩) L st K h ce sl
  · exact fun n L st K h ce sl => jwp_ok (okc_X7_digest ⟨hn, hcl, C, hR⟩) n sg_X7_digest_17 17 (ok_X7_digest_17 ⟨hn, hcl, C, hR⟩) L st K h ce sl
  · exact fun n L st K h ce sl => jwp_ok (okc_X7_digest ⟨hn, hcl, C, hR⟩) n sg_X7_digest_49 49 (ok_X7_digest_49 ⟨hn, hcl, C, hR⟩) L st K h ce sl
  · exact fun n L st K h ce sl => jwp_ok (okc_X7_digest ⟨hn, hcl, C, hR⟩) n sg_X7_digest_57 57 (ok_X7_digest_57 ⟨hn, hcl, C, hR⟩) L st K h ce sl
set_option maxHeartbeats 4000000 in
set_option maxRecDepth 100000 in
theorem v_X7_digest {G : jGt} {Q : jPost} {K : List jK} {h : jM}  (hT : jXM K ∧ (∃ cnt : Nat, cnt ≤ 6 ∧ h 37 8 = nI cnt ∧ Q (some (.long (dgA (mAnt h) (dgF (h 38) 240) cnt))) K h)) (H0 : jHd cd_X7_digest G Q sg_X7_digest_0 0) (H7 : jHd cd_X7_digest G Q sg_X7_digest_7 7) (H17 : jHd cd_X7_digest G Q sg_X7_digest_17 17) (H49 : jHd cd_X7_digest G Q sg_X7_digest_49 49) (H57 : jHd cd_X7_digest G Q sg_X7_digest_57 57) : G 0 [some (.ref 37), none, none, none, none] [] K h 0 0 := by
  obtain ⟨hM, cnt, hc6, hcnt, hT⟩ := hT
  have ants : ∀ n i, i + n = cnt → ∀ x4 : Option Value, G 57 [some (.ref 37), some (.long (dgA (mAnt h) (dgF (h 38) 240) i)), none, some (.int (nI i)), x4] [] K h 0 0 := by
    intro n
    induction n with
    | zero =>
      intro i hi x4
      have : i = cnt := by omega
      subst this
      have hle : nI i ≤ nI i := Int32.le_refl _
      refine H57 80 _ _ _ _ _ _ ?_
      simp only [sg_X7_digest_0, sg_X7_digest_7, sg_X7_digest_17, sg_X7_digest_49, sg_X7_digest_55, sg_X7_digest_57, sg_X7_digest_127, cd_X7_digest, jwp, o_ic, o_lc, o_iload, o_lload, o_aload, o_istore, o_lstore, o_astore, o_iinc, o_pop, o_dup, o_dup2, o_iadd, o_isub, o_imul, o_iand, o_ior, o_ishl, o_ladd, o_lmul, o_land, o_lor, o_idiv, o_irem, o_ineg, o_i2l, o_l2i, o_i2b, o_i2s, o_lushr, o_lshr, o_lshl, o_lcmp, o_ifeq, o_ifne, o_iflt, o_ifge, o_ifgt, o_ifle, o_iceq, o_icne, o_iclt, o_icge, o_icgt, o_icle, o_goto, o_tsw, jsw, o_lsw, jlk, o_getf, o_putf, o_putz, o_iald, o_zald, o_iast, o_zast, o_aald, o_alen, o_gets, o_zld, o_zlen, o_cpy, o_call, o_callV, o_ireti, o_iretz, o_lret, o_vret, jg, js, jkp, jkill, jsp, jcs, jfw, jov, Value.category, Option.toList_some, Option.toList_none, List.nil_append, List.cons_append, List.append_nil, Nat.reduceAdd, true_and, and_true, jb0, jb01, jb1, jem, true_or, or_true, Classical.not_not, forall_const, List.length_cons, List.length_nil, Nat.reduceLeDiff, Nat.zero_le, Nat.reduceLT, and_self, not_true_eq_false, not_false_eq_true, false_imp_iff, true_imp_iff, implies_true, and_false, false_and, or_false, false_or, hM, km_37_0 hM, km_37_1 hM, km_37_2 hM, km_37_3 hM, km_37_4 hM, km_37_5 hM, km_37_6 hM, km_37_7 hM, km_37_8 hM, km_37_9 hM, km_37_10 hM, km_37_11 hM, km_37_12 hM, km_37_13 hM, km_37_14 hM, km_37_15 hM, km_37_16 hM, km_37_17 hM, km_37_18 hM, km_37_19 hM, km_37_20 hM, km_37_21 hM, km_37_22 hM, km_37_23 hM, km_37_24 hM, km_37_25 hM, km_37_26 hM, km_37_27 hM, km_37_28 hM, km_37_29 hM, km_37_30 hM, km_37_31 hM, km_37_32 hM, kmo_37 hM, kma_38 hM, kma_39 hM, kma_40 hM, kma_41 hM, kma_42 hM, kma_43 hM, kma_44 hM, kma_45 hM, kma_46 hM, kma_47 hM, kma_48 hM, kma_49 hM, kma_50 hM, kma_52 hM, kma_53 hM, kma_54 hM, kma_55 hM, kma_56 hM, kma_51 hM, hcnt, hle]
      exact hT
    | succ n ih =>
      intro i hi x4
      have h6 : i < 6 := by omega
      have hv : vp_in (nI i) 6 := vp_in_nI h6 (by decide)
      have h2 := ih (i + 1) (by omega) x4
      have hlt : ¬ nI cnt ≤ nI i := fun z => absurd ((nI_leI (by omega) (by omega)).mp z) (by omega)
      refine H57 80 _ _ _ _ _ _ ?_
      simp only [sg_X7_digest_0, sg_X7_digest_7, sg_X7_digest_17, sg_X7_digest_49, sg_X7_digest_55, sg_X7_digest_57, sg_X7_digest_127, cd_X7_digest, jwp, o_ic, o_lc, o_iload, o_lload, o_aload, o_istore, o_lstore, o_astore, o_iinc, o_pop, o_dup, o_dup2, o_iadd, o_isub, o_imul, o_iand, o_ior, o_ishl, o_ladd, o_lmul, o_land, o_lor, o_idiv, o_irem, o_ineg, o_i2l, o_l2i, o_i2b, o_i2s, o_lushr, o_lshr, o_lshl, o_lcmp, o_ifeq, o_ifne, o_iflt, o_ifge, o_ifgt, o_ifle, o_iceq, o_icne, o_iclt, o_icge, o_icgt, o_icle, o_goto, o_tsw, jsw, o_lsw, jlk, o_getf, o_putf, o_putz, o_iald, o_zald, o_iast, o_zast, o_aald, o_alen, o_gets, o_zld, o_zlen, o_cpy, o_call, o_callV, o_ireti, o_iretz, o_lret, o_vret, jg, js, jkp, jkill, jsp, jcs, jfw, jov, Value.category, Option.toList_some, Option.toList_none, List.nil_append, List.cons_append, List.append_nil, Nat.reduceAdd, true_and, and_true, jb0, jb01, jb1, jem, true_or, or_true, Classical.not_not, forall_const, List.length_cons, List.length_nil, Nat.reduceLeDiff, Nat.zero_le, Nat.reduceLT, and_self, not_true_eq_false, not_false_eq_true, false_imp_iff, true_imp_iff, implies_true, and_false, false_and, or_false, false_or, hM, km_37_0 hM, km_37_1 hM, km_37_2 hM, km_37_3 hM, km_37_4 hM, km_37_5 hM, km_37_6 hM, km_37_7 hM, km_37_8 hM, km_37_9 hM, km_37_10 hM, km_37_11 hM, km_37_12 hM, km_37_13 hM, km_37_14 hM, km_37_15 hM, km_37_16 hM, km_37_17 hM, km_37_18 hM, km_37_19 hM, km_37_20 hM, km_37_21 hM, km_37_22 hM, km_37_23 hM, km_37_24 hM, km_37_25 hM, km_37_26 hM, km_37_27 hM, km_37_28 hM, km_37_29 hM, km_37_30 hM, km_37_31 hM, km_37_32 hM, kmo_37 hM, kma_38 hM, kma_39 hM, kma_40 hM, kma_41 hM, kma_42 hM, kma_43 hM, kma_44 hM, kma_45 hM, kma_46 hM, kma_47 hM, kma_48 hM, kma_49 hM, kma_50 hM, kma_52 hM, kma_53 hM, kma_54 hM, kma_55 hM, kma_56 hM, kma_51 hM, hcnt, hlt, hv, nI_clamp (show i < 2147483648 by omega)]
      rw [nI_1]
      exact h2
  have h49 : ∀ (d : Int64) (Y : Nat) x4, G 7 [some (.ref 37), some (.long d), none, some (.int (nI Y + -121)), x4] [] K h 0 0 → G 49 [some (.ref 37), some (.long d), none, some (.int (nI Y + -120)), x4] [] K h 0 0 := by
    intro d Y x4 hG
    have e : nI Y + -120 + -1 = nI Y + -121 := by rw [Int32.add_assoc]; rfl
    refine H49 60 _ _ _ _ _ _ ?_
    simp only [sg_X7_digest_0, sg_X7_digest_7, sg_X7_digest_17, sg_X7_digest_49, sg_X7_digest_55, sg_X7_digest_57, sg_X7_digest_127, cd_X7_digest, jwp, o_ic, o_lc, o_iload, o_lload, o_aload, o_istore, o_lstore, o_astore, o_iinc, o_pop, o_dup, o_dup2, o_iadd, o_isub, o_imul, o_iand, o_ior, o_ishl, o_ladd, o_lmul, o_land, o_lor, o_idiv, o_irem, o_ineg, o_i2l, o_l2i, o_i2b, o_i2s, o_lushr, o_lshr, o_lshl, o_lcmp, o_ifeq, o_ifne, o_iflt, o_ifge, o_ifgt, o_ifle, o_iceq, o_icne, o_iclt, o_icge, o_icgt, o_icle, o_goto, o_tsw, jsw, o_lsw, jlk, o_getf, o_putf, o_putz, o_iald, o_zald, o_iast, o_zast, o_aald, o_alen, o_gets, o_zld, o_zlen, o_cpy, o_call, o_callV, o_ireti, o_iretz, o_lret, o_vret, jg, js, jkp, jkill, jsp, jcs, jfw, jov, Value.category, Option.toList_some, Option.toList_none, List.nil_append, List.cons_append, List.append_nil, Nat.reduceAdd, true_and, and_true, jb0, jb01, jb1, jem, true_or, or_true, Classical.not_not, forall_const, List.length_cons, List.length_nil, Nat.reduceLeDiff, Nat.zero_le, Nat.reduceLT, hM, km_37_0 hM, km_37_1 hM, km_37_2 hM, km_37_3 hM, km_37_4 hM, km_37_5 hM, km_37_6 hM, km_37_7 hM, km_37_8 hM, km_37_9 hM, km_37_10 hM, km_37_11 hM, km_37_12 hM, km_37_13 hM, km_37_14 hM, km_37_15 hM, km_37_16 hM, km_37_17 hM, km_37_18 hM, km_37_19 hM, km_37_20 hM, km_37_21 hM, km_37_22 hM, km_37_23 hM, km_37_24 hM, km_37_25 hM, km_37_26 hM, km_37_27 hM, km_37_28 hM, km_37_29 hM, km_37_30 hM, km_37_31 hM, km_37_32 hM, kmo_37 hM, kma_38 hM, kma_39 hM, kma_40 hM, kma_41 hM, kma_42 hM, kma_43 hM, kma_44 hM, kma_45 hM, kma_46 hM, kma_47 hM, kma_48 hM, kma_49 hM, kma_50 hM, kma_52 hM, kma_53 hM, kma_54 hM, kma_55 hM, kma_56 hM, kma_51 hM, e]
    exact hG
  have inner : ∀ Y, Y < 240 → ∀ n X, X + n = 240 → G 7 [some (.ref 37), some (.long (dgR (h 38) (dgF (h 38) (239 - Y)) (Y * 240) 240)), none, some (.int (nI Y + -121)), some (.int (nI 240 + -120))] [] K h 0 0 → G 17 [some (.ref 37), some (.long (dgR (h 38) (dgF (h 38) (239 - Y)) (Y * 240) X)), none, some (.int (nI Y + -120)), some (.int (nI X + -120))] [] K h 0 0 := by
    intro Y hY n
    induction n with
    | zero =>
      intro X hX hend
      have : X = 240 := by omega
      subst this
      have hle : (120 : Int32) ≤ nI 240 + -120 := by decide
      have h9 := h49 _ Y _ hend
      generalize nI 240 + -120 = z at hle h9 ⊢
      refine H17 60 _ _ _ _ _ _ ?_
      simp only [sg_X7_digest_0, sg_X7_digest_7, sg_X7_digest_17, sg_X7_digest_49, sg_X7_digest_55, sg_X7_digest_57, sg_X7_digest_127, cd_X7_digest, jwp, o_ic, o_lc, o_iload, o_lload, o_aload, o_istore, o_lstore, o_astore, o_iinc, o_pop, o_dup, o_dup2, o_iadd, o_isub, o_imul, o_iand, o_ior, o_ishl, o_ladd, o_lmul, o_land, o_lor, o_idiv, o_irem, o_ineg, o_i2l, o_l2i, o_i2b, o_i2s, o_lushr, o_lshr, o_lshl, o_lcmp, o_ifeq, o_ifne, o_iflt, o_ifge, o_ifgt, o_ifle, o_iceq, o_icne, o_iclt, o_icge, o_icgt, o_icle, o_goto, o_tsw, jsw, o_lsw, jlk, o_getf, o_putf, o_putz, o_iald, o_zald, o_iast, o_zast, o_aald, o_alen, o_gets, o_zld, o_zlen, o_cpy, o_call, o_callV, o_ireti, o_iretz, o_lret, o_vret, jg, js, jkp, jkill, jsp, jcs, jfw, jov, Value.category, Option.toList_some, Option.toList_none, List.nil_append, List.cons_append, List.append_nil, Nat.reduceAdd, true_and, and_true, jb0, jb01, jb1, jem, true_or, or_true, Classical.not_not, forall_const, List.length_cons, List.length_nil, Nat.reduceLeDiff, Nat.zero_le, Nat.reduceLT, and_self, not_true_eq_false, not_false_eq_true, false_imp_iff, true_imp_iff, implies_true, and_false, false_and, or_false, false_or, hM, km_37_0 hM, km_37_1 hM, km_37_2 hM, km_37_3 hM, km_37_4 hM, km_37_5 hM, km_37_6 hM, km_37_7 hM, km_37_8 hM, km_37_9 hM, km_37_10 hM, km_37_11 hM, km_37_12 hM, km_37_13 hM, km_37_14 hM, km_37_15 hM, km_37_16 hM, km_37_17 hM, km_37_18 hM, km_37_19 hM, km_37_20 hM, km_37_21 hM, km_37_22 hM, km_37_23 hM, km_37_24 hM, km_37_25 hM, km_37_26 hM, km_37_27 hM, km_37_28 hM, km_37_29 hM, km_37_30 hM, km_37_31 hM, km_37_32 hM, kmo_37 hM, kma_38 hM, kma_39 hM, kma_40 hM, kma_41 hM, kma_42 hM, kma_43 hM, kma_44 hM, kma_45 hM, kma_46 hM, kma_47 hM, kma_48 hM, kma_49 hM, kma_50 hM, kma_52 hM, kma_53 hM, kma_54 hM, kma_55 hM, kma_56 hM, kma_51 hM, hle]
      exact h9
    | succ n ih =>
      intro X hX hend
      have hX2 : X < 240 := by omega
      have h31 : Y * 240 + X < 2147483648 := by omega
      have hv : vp_in (nI (Y * 240 + X)) 57600 := vp_in_nI (by omega) (by decide)
      have h2 := ih (X + 1) (by omega) hend
      have hlt : ¬ (120 : Int32) ≤ nI X + -120 := fun z => by
        rw [Int32.le_iff_toInt_le, oI_int (X := X) (by omega)] at z
        have : (120 : Int32).toInt = 120 := rfl
        omega
      have hon := oI_on hX2 hY
      have hj := oI_jpl hX2 hY
      have ex : nI X + -120 + 1 = nI (X + 1) + -120 := by
        rw [Int32.add_assoc, Int32.add_comm (-120) 1, ← Int32.add_assoc, nI_1]
      rw [← ex] at h2
      generalize nI X + -120 = x at hlt hon hj h2 ⊢
      generalize nI Y + -120 = y at hon hj h2 ⊢
      refine H17 60 _ _ _ _ _ _ ?_
      simp only [sg_X7_digest_0, sg_X7_digest_7, sg_X7_digest_17, sg_X7_digest_49, sg_X7_digest_55, sg_X7_digest_57, sg_X7_digest_127, cd_X7_digest, jwp, o_ic, o_lc, o_iload, o_lload, o_aload, o_istore, o_lstore, o_astore, o_iinc, o_pop, o_dup, o_dup2, o_iadd, o_isub, o_imul, o_iand, o_ior, o_ishl, o_ladd, o_lmul, o_land, o_lor, o_idiv, o_irem, o_ineg, o_i2l, o_l2i, o_i2b, o_i2s, o_lushr, o_lshr, o_lshl, o_lcmp, o_ifeq, o_ifne, o_iflt, o_ifge, o_ifgt, o_ifle, o_iceq, o_icne, o_iclt, o_icge, o_icgt, o_icle, o_goto, o_tsw, jsw, o_lsw, jlk, o_getf, o_putf, o_putz, o_iald, o_zald, o_iast, o_zast, o_aald, o_alen, o_gets, o_zld, o_zlen, o_cpy, o_call, o_callV, o_ireti, o_iretz, o_lret, o_vret, jg, js, jkp, jkill, jsp, jcs, jfw, jov, Value.category, Option.toList_some, Option.toList_none, List.nil_append, List.cons_append, List.append_nil, Nat.reduceAdd, true_and, and_true, jb0, jb01, jb1, jem, true_or, or_true, Classical.not_not, forall_const, List.length_cons, List.length_nil, Nat.reduceLeDiff, Nat.zero_le, Nat.reduceLT, and_self, not_true_eq_false, not_false_eq_true, false_imp_iff, true_imp_iff, implies_true, and_false, false_and, or_false, false_or, hM, km_37_0 hM, km_37_1 hM, km_37_2 hM, km_37_3 hM, km_37_4 hM, km_37_5 hM, km_37_6 hM, km_37_7 hM, km_37_8 hM, km_37_9 hM, km_37_10 hM, km_37_11 hM, km_37_12 hM, km_37_13 hM, km_37_14 hM, km_37_15 hM, km_37_16 hM, km_37_17 hM, km_37_18 hM, km_37_19 hM, km_37_20 hM, km_37_21 hM, km_37_22 hM, km_37_23 hM, km_37_24 hM, km_37_25 hM, km_37_26 hM, km_37_27 hM, km_37_28 hM, km_37_29 hM, km_37_30 hM, km_37_31 hM, km_37_32 hM, kmo_37 hM, kma_38 hM, kma_39 hM, kma_40 hM, kma_41 hM, kma_42 hM, kma_43 hM, kma_44 hM, kma_45 hM, kma_46 hM, kma_47 hM, kma_48 hM, kma_49 hM, kma_50 hM, kma_52 hM, kma_53 hM, kma_54 hM, kma_55 hM, kma_56 hM, kma_51 hM, hlt, T_X7_cell, hon, hj, hv, nI_clamp h31]
      exact h2
  have outer : ∀ Y, Y ≤ 240 → ∀ x4, G 7 [some (.ref 37), some (.long (dgF (h 38) (240 - Y))), none, some (.int (nI Y + -121)), x4] [] K h 0 0 := by
    intro Y
    induction Y with
    | zero =>
      intro hy x4
      have hlt : nI 0 + -121 < -120 := by decide
      have h2 := ants cnt 0 (by omega) x4
      generalize nI 0 + -121 = z at hlt ⊢
      refine H7 60 _ _ _ _ _ _ ?_
      simp only [sg_X7_digest_0, sg_X7_digest_7, sg_X7_digest_17, sg_X7_digest_49, sg_X7_digest_55, sg_X7_digest_57, sg_X7_digest_127, cd_X7_digest, jwp, o_ic, o_lc, o_iload, o_lload, o_aload, o_istore, o_lstore, o_astore, o_iinc, o_pop, o_dup, o_dup2, o_iadd, o_isub, o_imul, o_iand, o_ior, o_ishl, o_ladd, o_lmul, o_land, o_lor, o_idiv, o_irem, o_ineg, o_i2l, o_l2i, o_i2b, o_i2s, o_lushr, o_lshr, o_lshl, o_lcmp, o_ifeq, o_ifne, o_iflt, o_ifge, o_ifgt, o_ifle, o_iceq, o_icne, o_iclt, o_icge, o_icgt, o_icle, o_goto, o_tsw, jsw, o_lsw, jlk, o_getf, o_putf, o_putz, o_iald, o_zald, o_iast, o_zast, o_aald, o_alen, o_gets, o_zld, o_zlen, o_cpy, o_call, o_callV, o_ireti, o_iretz, o_lret, o_vret, jg, js, jkp, jkill, jsp, jcs, jfw, jov, Value.category, Option.toList_some, Option.toList_none, List.nil_append, List.cons_append, List.append_nil, Nat.reduceAdd, true_and, and_true, jb0, jb01, jb1, jem, true_or, or_true, Classical.not_not, forall_const, List.length_cons, List.length_nil, Nat.reduceLeDiff, Nat.zero_le, Nat.reduceLT, and_self, not_true_eq_false, not_false_eq_true, false_imp_iff, true_imp_iff, implies_true, and_false, false_and, or_false, false_or, hM, km_37_0 hM, km_37_1 hM, km_37_2 hM, km_37_3 hM, km_37_4 hM, km_37_5 hM, km_37_6 hM, km_37_7 hM, km_37_8 hM, km_37_9 hM, km_37_10 hM, km_37_11 hM, km_37_12 hM, km_37_13 hM, km_37_14 hM, km_37_15 hM, km_37_16 hM, km_37_17 hM, km_37_18 hM, km_37_19 hM, km_37_20 hM, km_37_21 hM, km_37_22 hM, km_37_23 hM, km_37_24 hM, km_37_25 hM, km_37_26 hM, km_37_27 hM, km_37_28 hM, km_37_29 hM, km_37_30 hM, km_37_31 hM, km_37_32 hM, kmo_37 hM, kma_38 hM, kma_39 hM, kma_40 hM, kma_41 hM, kma_42 hM, kma_43 hM, kma_44 hM, kma_45 hM, kma_46 hM, kma_47 hM, kma_48 hM, kma_49 hM, kma_50 hM, kma_52 hM, kma_53 hM, kma_54 hM, kma_55 hM, kma_56 hM, kma_51 hM, hlt]
      exact h2
    | succ Y ih =>
      intro hy x4
      have e : nI (Y + 1) + -121 = nI Y + -120 := by
        rw [nI_succ, Int32.add_assoc]; rfl
      rw [e]
      have hlt : ¬ nI Y + -120 < -120 := fun z => by
        rw [Int32.lt_iff_toInt_lt, oI_int (X := Y) (by omega)] at z
        have : (-120 : Int32).toInt = -120 := rfl
        omega
      have h2 := inner Y (by omega) 240 0 (by omega) (by
        have h3 := ih (by omega) (some (.int (nI 240 + -120)))
        rw [show 240 - Y = (239 - Y) + 1 by omega, dgF_s, show 239 - (239 - Y) = Y by omega] at h3
        exact h3)
      rw [show 240 - (Y + 1) = 239 - Y by omega]
      generalize nI Y + -120 = y at hlt h2 ⊢
      refine H7 60 _ _ _ _ _ _ ?_
      simp only [sg_X7_digest_0, sg_X7_digest_7, sg_X7_digest_17, sg_X7_digest_49, sg_X7_digest_55, sg_X7_digest_57, sg_X7_digest_127, cd_X7_digest, jwp, o_ic, o_lc, o_iload, o_lload, o_aload, o_istore, o_lstore, o_astore, o_iinc, o_pop, o_dup, o_dup2, o_iadd, o_isub, o_imul, o_iand, o_ior, o_ishl, o_ladd, o_lmul, o_land, o_lor, o_idiv, o_irem, o_ineg, o_i2l, o_l2i, o_i2b, o_i2s, o_lushr, o_lshr, o_lshl, o_lcmp, o_ifeq, o_ifne, o_iflt, o_ifge, o_ifgt, o_ifle, o_iceq, o_icne, o_iclt, o_icge, o_icgt, o_icle, o_goto, o_tsw, jsw, o_lsw, jlk, o_getf, o_putf, o_putz, o_iald, o_zald, o_iast, o_zast, o_aald, o_alen, o_gets, o_zld, o_zlen, o_cpy, o_call, o_callV, o_ireti, o_iretz, o_lret, o_vret, jg, js, jkp, jkill, jsp, jcs, jfw, jov, Value.category, Option.toList_some, Option.toList_none, List.nil_append, List.cons_append, List.append_nil, Nat.reduceAdd, true_and, and_true, jb0, jb01, jb1, jem, true_or, or_true, Classical.not_not, forall_const, List.length_cons, List.length_nil, Nat.reduceLeDiff, Nat.zero_le, Nat.reduceLT, and_self, not_true_eq_false, not_false_eq_true, false_imp_iff, true_imp_iff, implies_true, and_false, false_and, or_false, false_or, hM, km_37_0 hM, km_37_1 hM, km_37_2 hM, km_37_3 hM, km_37_4 hM, km_37_5 hM, km_37_6 hM, km_37_7 hM, km_37_8 hM, km_37_9 hM, km_37_10 hM, km_37_11 hM, km_37_12 hM, km_37_13 hM, km_37_14 hM, km_37_15 hM, km_37_16 hM, km_37_17 hM, km_37_18 hM, km_37_19 hM, km_37_20 hM, km_37_21 hM, km_37_22 hM, km_37_23 hM, km_37_24 hM, km_37_25 hM, km_37_26 hM, km_37_27 hM, km_37_28 hM, km_37_29 hM, km_37_30 hM, km_37_31 hM, km_37_32 hM, kmo_37 hM, kma_38 hM, kma_39 hM, kma_40 hM, kma_41 hM, kma_42 hM, kma_43 hM, kma_44 hM, kma_45 hM, kma_46 hM, kma_47 hM, kma_48 hM, kma_49 hM, kma_50 hM, kma_52 hM, kma_53 hM, kma_54 hM, kma_55 hM, kma_56 hM, kma_51 hM, hlt]
      exact h2
  have h9 := outer 240 (by omega) none
  refine H0 60 _ _ _ _ _ _ ?_
  simp only [sg_X7_digest_0, sg_X7_digest_7, sg_X7_digest_17, sg_X7_digest_49, sg_X7_digest_55, sg_X7_digest_57, sg_X7_digest_127, cd_X7_digest, jwp, o_ic, o_lc, o_iload, o_lload, o_aload, o_istore, o_lstore, o_astore, o_iinc, o_pop, o_dup, o_dup2, o_iadd, o_isub, o_imul, o_iand, o_ior, o_ishl, o_ladd, o_lmul, o_land, o_lor, o_idiv, o_irem, o_ineg, o_i2l, o_l2i, o_i2b, o_i2s, o_lushr, o_lshr, o_lshl, o_lcmp, o_ifeq, o_ifne, o_iflt, o_ifge, o_ifgt, o_ifle, o_iceq, o_icne, o_iclt, o_icge, o_icgt, o_icle, o_goto, o_tsw, jsw, o_lsw, jlk, o_getf, o_putf, o_putz, o_iald, o_zald, o_iast, o_zast, o_aald, o_alen, o_gets, o_zld, o_zlen, o_cpy, o_call, o_callV, o_ireti, o_iretz, o_lret, o_vret, jg, js, jkp, jkill, jsp, jcs, jfw, jov, Value.category, Option.toList_some, Option.toList_none, List.nil_append, List.cons_append, List.append_nil, Nat.reduceAdd, true_and, and_true, jb0, jb01, jb1, jem, true_or, or_true, Classical.not_not, forall_const, List.length_cons, List.length_nil, Nat.reduceLeDiff, Nat.zero_le, Nat.reduceLT, and_self, not_true_eq_false, not_false_eq_true, false_imp_iff, true_imp_iff, implies_true, and_false, false_and, or_false, false_or, hM, km_37_0 hM, km_37_1 hM, km_37_2 hM, km_37_3 hM, km_37_4 hM, km_37_5 hM, km_37_6 hM, km_37_7 hM, km_37_8 hM, km_37_9 hM, km_37_10 hM, km_37_11 hM, km_37_12 hM, km_37_13 hM, km_37_14 hM, km_37_15 hM, km_37_16 hM, km_37_17 hM, km_37_18 hM, km_37_19 hM, km_37_20 hM, km_37_21 hM, km_37_22 hM, km_37_23 hM, km_37_24 hM, km_37_25 hM, km_37_26 hM, km_37_27 hM, km_37_28 hM, km_37_29 hM, km_37_30 hM, km_37_31 hM, km_37_32 hM, kmo_37 hM, kma_38 hM, kma_39 hM, kma_40 hM, kma_41 hM, kma_42 hM, kma_43 hM, kma_44 hM, kma_45 hM, kma_46 hM, kma_47 hM, kma_48 hM, kma_49 hM, kma_50 hM, kma_52 hM, kma_53 hM, kma_54 hM, kma_55 hM, kma_56 hM, kma_51 hM]
  exact h9
theorem m_X7_digest (l : Launch) : jHolds vwCl l yX7_digest wsX7_digest 1 21 0 0 T_X7_digest := by
  refine m_X7_digest_of l (fun G Q vs K h H0 H7 H17 H49 H57 hT => ?_)
  unfold T_X7_digest at hT
  split at hT
  · obtain ⟨rfl, hT⟩ := hT
    exact ⟨Nat.le_of_ble_eq_true rfl, v_X7_digest hT H0 H7 H17 H49 H57⟩
  · exact hT.elim

/-! X7_comesBack -/
/-- at most n more steps on the floor -/
def crM (u v a b : Int32) (n : Nat) : Prop := (0 < u.toInt → 120 - a.toInt ≤ (n : Int)) ∧ (u.toInt < 0 → a.toInt + 121 ≤ (n : Int)) ∧ (u.toInt = 0 → 0 < v.toInt → 120 - b.toInt ≤ (n : Int)) ∧ (u.toInt = 0 → v.toInt < 0 → b.toInt + 121 ≤ (n : Int))
theorem crNZ {u v : Int32} (h : ¬ u = 0 ∨ ¬ v = 0) : ¬ u.toInt = 0 ∨ ¬ v.toInt = 0 := by
  rcases h with h | h
  · exact Or.inl (fun z => h (Int32.toInt_inj.mp z))
  · exact Or.inr (fun z => h (Int32.toInt_inj.mp z))
theorem crM_0 {u v a b : Int32} (h : onF a b) (huv : ¬ u = 0 ∨ ¬ v = 0) : ¬ crM u v a b 0 := by
  have h1 := onF_int h
  have h2 := crNZ huv
  rintro ⟨m1, m2, m3, m4⟩
  omega
theorem crM_i {u v a b : Int32} {N : Nat} (h : onF a b) (hN : N = 240) : crM u v a b N := by
  have h1 := onF_int h
  refine ⟨fun _ => ?_, fun _ => ?_, fun _ _ => ?_, fun _ _ => ?_⟩ <;> omega
theorem cr_add {a u : Int32} (ha : -120 ≤ a.toInt ∧ a.toInt ≤ 119) (hu : -239 ≤ u.toInt ∧ u.toInt ≤ 239) : (a + u).toInt = a.toInt + u.toInt := ti_add (by omega) (by omega)
theorem crM_s {u v a b : Int32} {n : Nat} (h : onF a b) (hu : -239 ≤ u.toInt ∧ u.toInt ≤ 239) (hv : -239 ≤ v.toInt ∧ v.toInt ≤ 239) (huv : ¬ u = 0 ∨ ¬ v = 0) (hm : crM u v a b (n + 1)) : crM u v (a + u) (b + v) n := by
  have h1 := onF_int h
  obtain ⟨m1, m2, m3, m4⟩ := hm
  have e1 := cr_add h1.1 hu
  have e2 := cr_add h1.2 hv
  refine ⟨fun _ => ?_, fun _ => ?_, fun _ _ => ?_, fun _ _ => ?_⟩ <;> omega
theorem cr_off {u v a b : Int32} (h : onF a b) (hu : -239 ≤ u.toInt ∧ u.toInt ≤ 239) (hv : -239 ≤ v.toInt ∧ v.toInt ≤ 239) (hn : ¬ onF (a + u) (b + v)) : ¬ onF (a + u + u) (b + v + v) := by
  have h1 := onF_int h
  have e1 := cr_add h1.1 hu
  have e2 := cr_add h1.2 hv
  have e3 : (a + u + u).toInt = a.toInt + u.toInt + u.toInt := by rw [ti_add (by omega) (by omega), e1]
  have e4 : (b + v + v).toInt = b.toInt + v.toInt + v.toInt := by rw [ti_add (by omega) (by omega), e2]
  intro z
  have h2 := onF_int z
  apply hn
  rw [e3, e4] at h2
  apply onF_of
  rw [e1, e2]
  omega
def T_X7_comesBack : jT := fun vs K h Q => match vs with
  | [.ref r0, .int x, .int y, .int u, .int v] => r0 = 37 ∧ (jXM K ∧ onF x y ∧ (¬ u = 0 ∨ ¬ v = 0) ∧ (-239 ≤ u.toInt ∧ u.toInt ≤ 239) ∧ (-239 ≤ v.toInt ∧ v.toInt ≤ 239) ∧ Q (some (.int (jb (jcy (h 38) (h 52) u v x y)))) K h)
  | _ => False
def sg_X7_comesBack_0 : jS := [(o_iload 1, 1), (o_istore 5, 2), (o_iload 2, 1), (o_istore 6, 2), (o_ic (1), 1), (o_istore 7, 2)]
def sg_X7_comesBack_9 : jS := [(o_iload 7, 2), (o_ifeq 86, 3), (o_iload 5, 2), (o_iload 6, 2), (o_call 2 T_X7_isCell, 3), (o_ifne 39, 3), (o_iload 5, 2), (o_iload 3, 1), (o_iadd, 1), (o_iload 6, 2), (o_iload 4, 2), (o_iadd, 1), (o_call 2 T_X7_isCell, 3), (o_ifeq 86, 3)]
def sg_X7_comesBack_39 : jS := [(o_aload 0, 1), (o_iload 5, 2), (o_iload 3, 1), (o_iadd, 1), (o_iload 6, 2), (o_iload 4, 2), (o_iadd, 1), (o_callV 3 7 T_X7_colourAt, 3), (o_aload 0, 1), (o_iload 5, 2), (o_iload 6, 2), (o_callV 3 7 T_X7_markedAt, 3), (o_icne 67, 3), (o_ic (1), 1), (o_goto 68, 3)]
def sg_X7_comesBack_67 : jS := [(o_ic (0), 1)]
def sg_X7_comesBack_68 : jS := [(o_istore 7, 2), (o_iload 5, 2), (o_iload 3, 1), (o_iadd, 1), (o_istore 5, 2), (o_iload 6, 2), (o_iload 4, 2), (o_iadd, 1), (o_istore 6, 2), (o_goto 9, 3)]
def sg_X7_comesBack_86 : jS := [(o_iload 7, 2), (o_iretz, 1)]
def cd_X7_comesBack : Nat → jS := fun t => match t with
  | 67 => sg_X7_comesBack_67
  | 86 => sg_X7_comesBack_86
  | _ => []
def E_X7_comesBack (Γ : jΓ) (Q : jPost) : Prop := Γ.2.2.2.2.2.2.2.2.2.2.1 = 8 ∧ Γ.2.2.2.2.2.2.2.2.2.2.2.1 = vwCl ∧ jC Γ cX7_comesBack RX7 "comesBack" (some .boolean) wsX7_comesBack 3 65 0 0 ∧ jR Γ Q 0 0
theorem oo_X7_comesBack_0 {Γ : jΓ} {Q : jPost} (E : E_X7_comesBack Γ Q) : jSA Γ Q 0 (o_iload 1) 1 := so_iload_n E.2.2.1 rfl dX7_comesBack_0
theorem oo_X7_comesBack_1 {Γ : jΓ} {Q : jPost} (E : E_X7_comesBack Γ Q) : jSA Γ Q 1 (o_istore 5) 2 := so_istore E.2.2.1 (by rw [E.1]; decide) dX7_comesBack_1
theorem oo_X7_comesBack_3 {Γ : jΓ} {Q : jPost} (E : E_X7_comesBack Γ Q) : jSA Γ Q 3 (o_iload 2) 1 := so_iload_n E.2.2.1 rfl dX7_comesBack_3
theorem oo_X7_comesBack_4 {Γ : jΓ} {Q : jPost} (E : E_X7_comesBack Γ Q) : jSA Γ Q 4 (o_istore 6) 2 := so_istore E.2.2.1 (by rw [E.1]; decide) dX7_comesBack_4
theorem oo_X7_comesBack_6 {Γ : jΓ} {Q : jPost} (E : E_X7_comesBack Γ Q) : jSA Γ Q 6 (o_ic (1)) 1 := so_iconst E.2.2.1 rfl dX7_comesBack_6
theorem oo_X7_comesBack_7 {Γ : jΓ} {Q : jPost} (E : E_X7_comesBack Γ Q) : jSA Γ Q 7 (o_istore 7) 2 := so_istore E.2.2.1 (by rw [E.1]; decide) dX7_comesBack_7
theorem oo_X7_comesBack_9 {Γ : jΓ} {Q : jPost} (E : E_X7_comesBack Γ Q) : jSA Γ Q 9 (o_iload 7) 2 := so_iload E.2.2.1 dX7_comesBack_9
theorem oo_X7_comesBack_11 {Γ : jΓ} {Q : jPost} (E : E_X7_comesBack Γ Q) : jSA Γ Q 11 (o_ifeq 86) 3 := so_ifeq E.2.2.1 (by decide) dX7_comesBack_11
theorem oo_X7_comesBack_14 {Γ : jΓ} {Q : jPost} (E : E_X7_comesBack Γ Q) : jSA Γ Q 14 (o_iload 5) 2 := so_iload E.2.2.1 dX7_comesBack_14
theorem oo_X7_comesBack_16 {Γ : jΓ} {Q : jPost} (E : E_X7_comesBack Γ Q) : jSA Γ Q 16 (o_iload 6) 2 := so_iload E.2.2.1 dX7_comesBack_16
theorem oo_X7_comesBack_18 {Γ : jΓ} {Q : jPost} (E : E_X7_comesBack Γ Q) : jSA Γ Q 18 (o_call 2 T_X7_isCell) 3 := so_callS E.2.2.1 gX7_comesBack_X7_isCell (by decide +kernel) rfl (by rw [E.2.1]; exact m_X7_isCell _) (by decide) (by decide) dX7_comesBack_18
theorem oo_X7_comesBack_21 {Γ : jΓ} {Q : jPost} (E : E_X7_comesBack Γ Q) : jSA Γ Q 21 (o_ifne 39) 3 := so_ifne E.2.2.1 (by decide) dX7_comesBack_21
theorem oo_X7_comesBack_24 {Γ : jΓ} {Q : jPost} (E : E_X7_comesBack Γ Q) : jSA Γ Q 24 (o_iload 5) 2 := so_iload E.2.2.1 dX7_comesBack_24
theorem oo_X7_comesBack_26 {Γ : jΓ} {Q : jPost} (E : E_X7_comesBack Γ Q) : jSA Γ Q 26 (o_iload 3) 1 := so_iload_n E.2.2.1 rfl dX7_comesBack_26
theorem oo_X7_comesBack_27 {Γ : jΓ} {Q : jPost} (E : E_X7_comesBack Γ Q) : jSA Γ Q 27 (o_iadd) 1 := so_iadd E.2.2.1 dX7_comesBack_27
theorem oo_X7_comesBack_28 {Γ : jΓ} {Q : jPost} (E : E_X7_comesBack Γ Q) : jSA Γ Q 28 (o_iload 6) 2 := so_iload E.2.2.1 dX7_comesBack_28
theorem oo_X7_comesBack_30 {Γ : jΓ} {Q : jPost} (E : E_X7_comesBack Γ Q) : jSA Γ Q 30 (o_iload 4) 2 := so_iload E.2.2.1 dX7_comesBack_30
theorem oo_X7_comesBack_32 {Γ : jΓ} {Q : jPost} (E : E_X7_comesBack Γ Q) : jSA Γ Q 32 (o_iadd) 1 := so_iadd E.2.2.1 dX7_comesBack_32
theorem oo_X7_comesBack_33 {Γ : jΓ} {Q : jPost} (E : E_X7_comesBack Γ Q) : jSA Γ Q 33 (o_call 2 T_X7_isCell) 3 := so_callS E.2.2.1 gX7_comesBack_X7_isCell (by decide +kernel) rfl (by rw [E.2.1]; exact m_X7_isCell _) (by decide) (by decide) dX7_comesBack_33
theorem oo_X7_comesBack_36 {Γ : jΓ} {Q : jPost} (E : E_X7_comesBack Γ Q) : jSA Γ Q 36 (o_ifeq 86) 3 := so_ifeq E.2.2.1 (by decide) dX7_comesBack_36
theorem oo_X7_comesBack_39 {Γ : jΓ} {Q : jPost} (E : E_X7_comesBack Γ Q) : jSA Γ Q 39 (o_aload 0) 1 := so_aload_n E.2.2.1 rfl dX7_comesBack_39
theorem oo_X7_comesBack_40 {Γ : jΓ} {Q : jPost} (E : E_X7_comesBack Γ Q) : jSA Γ Q 40 (o_iload 5) 2 := so_iload E.2.2.1 dX7_comesBack_40
theorem oo_X7_comesBack_42 {Γ : jΓ} {Q : jPost} (E : E_X7_comesBack Γ Q) : jSA Γ Q 42 (o_iload 3) 1 := so_iload_n E.2.2.1 rfl dX7_comesBack_42
theorem oo_X7_comesBack_43 {Γ : jΓ} {Q : jPost} (E : E_X7_comesBack Γ Q) : jSA Γ Q 43 (o_iadd) 1 := so_iadd E.2.2.1 dX7_comesBack_43
theorem oo_X7_comesBack_44 {Γ : jΓ} {Q : jPost} (E : E_X7_comesBack Γ Q) : jSA Γ Q 44 (o_iload 6) 2 := so_iload E.2.2.1 dX7_comesBack_44
theorem oo_X7_comesBack_46 {Γ : jΓ} {Q : jPost} (E : E_X7_comesBack Γ Q) : jSA Γ Q 46 (o_iload 4) 2 := so_iload E.2.2.1 dX7_comesBack_46
theorem oo_X7_comesBack_48 {Γ : jΓ} {Q : jPost} (E : E_X7_comesBack Γ Q) : jSA Γ Q 48 (o_iadd) 1 := so_iadd E.2.2.1 dX7_comesBack_48
theorem oo_X7_comesBack_49 {Γ : jΓ} {Q : jPost} (E : E_X7_comesBack Γ Q) : jSA Γ Q 49 (o_callV 3 7 T_X7_colourAt) 3 := so_callV E.2.2.1 (ci := 7) (by rw [E.2.1]; rfl) gX7_comesBack_X7_colourAt (by decide +kernel) rfl (by rw [E.2.1]; exact m_X7_colourAt _) (by decide) (by decide) dX7_comesBack_49
theorem oo_X7_comesBack_52 {Γ : jΓ} {Q : jPost} (E : E_X7_comesBack Γ Q) : jSA Γ Q 52 (o_aload 0) 1 := so_aload_n E.2.2.1 rfl dX7_comesBack_52
theorem oo_X7_comesBack_53 {Γ : jΓ} {Q : jPost} (E : E_X7_comesBack Γ Q) : jSA Γ Q 53 (o_iload 5) 2 := so_iload E.2.2.1 dX7_comesBack_53
theorem oo_X7_comesBack_55 {Γ : jΓ} {Q : jPost} (E : E_X7_comesBack Γ Q) : jSA Γ Q 55 (o_iload 6) 2 := so_iload E.2.2.1 dX7_comesBack_55
theorem oo_X7_comesBack_57 {Γ : jΓ} {Q : jPost} (E : E_X7_comesBack Γ Q) : jSA Γ Q 57 (o_callV 3 7 T_X7_markedAt) 3 := so_callV E.2.2.1 (ci := 7) (by rw [E.2.1]; rfl) gX7_comesBack_X7_markedAt (by decide +kernel) rfl (by rw [E.2.1]; exact m_X7_markedAt _) (by decide) (by decide) dX7_comesBack_57
theorem oo_X7_comesBack_60 {Γ : jΓ} {Q : jPost} (E : E_X7_comesBack Γ Q) : jSA Γ Q 60 (o_icne 67) 3 := so_icne E.2.2.1 (by decide) dX7_comesBack_60
theorem oo_X7_comesBack_63 {Γ : jΓ} {Q : jPost} (E : E_X7_comesBack Γ Q) : jSA Γ Q 63 (o_ic (1)) 1 := so_iconst E.2.2.1 rfl dX7_comesBack_63
theorem oo_X7_comesBack_64 {Γ : jΓ} {Q : jPost} (E : E_X7_comesBack Γ Q) : jSA Γ Q 64 (o_goto 68) 3 := so_goto E.2.2.1 (by decide) dX7_comesBack_64
theorem oo_X7_comesBack_67 {Γ : jΓ} {Q : jPost} (E : E_X7_comesBack Γ Q) : jSA Γ Q 67 (o_ic (0)) 1 := so_iconst E.2.2.1 rfl dX7_comesBack_67
theorem oo_X7_comesBack_68 {Γ : jΓ} {Q : jPost} (E : E_X7_comesBack Γ Q) : jSA Γ Q 68 (o_istore 7) 2 := so_istore E.2.2.1 (by rw [E.1]; decide) dX7_comesBack_68
theorem oo_X7_comesBack_70 {Γ : jΓ} {Q : jPost} (E : E_X7_comesBack Γ Q) : jSA Γ Q 70 (o_iload 5) 2 := so_iload E.2.2.1 dX7_comesBack_70
theorem oo_X7_comesBack_72 {Γ : jΓ} {Q : jPost} (E : E_X7_comesBack Γ Q) : jSA Γ Q 72 (o_iload 3) 1 := so_iload_n E.2.2.1 rfl dX7_comesBack_72
theorem oo_X7_comesBack_73 {Γ : jΓ} {Q : jPost} (E : E_X7_comesBack Γ Q) : jSA Γ Q 73 (o_iadd) 1 := so_iadd E.2.2.1 dX7_comesBack_73
theorem oo_X7_comesBack_74 {Γ : jΓ} {Q : jPost} (E : E_X7_comesBack Γ Q) : jSA Γ Q 74 (o_istore 5) 2 := so_istore E.2.2.1 (by rw [E.1]; decide) dX7_comesBack_74
theorem oo_X7_comesBack_76 {Γ : jΓ} {Q : jPost} (E : E_X7_comesBack Γ Q) : jSA Γ Q 76 (o_iload 6) 2 := so_iload E.2.2.1 dX7_comesBack_76
theorem oo_X7_comesBack_78 {Γ : jΓ} {Q : jPost} (E : E_X7_comesBack Γ Q) : jSA Γ Q 78 (o_iload 4) 2 := so_iload E.2.2.1 dX7_comesBack_78
theorem oo_X7_comesBack_80 {Γ : jΓ} {Q : jPost} (E : E_X7_comesBack Γ Q) : jSA Γ Q 80 (o_iadd) 1 := so_iadd E.2.2.1 dX7_comesBack_80
theorem oo_X7_comesBack_81 {Γ : jΓ} {Q : jPost} (E : E_X7_comesBack Γ Q) : jSA Γ Q 81 (o_istore 6) 2 := so_istore E.2.2.1 (by rw [E.1]; decide) dX7_comesBack_81
theorem oo_X7_comesBack_83 {Γ : jΓ} {Q : jPost} (E : E_X7_comesBack Γ Q) : jSA Γ Q 83 (o_goto 9) 3 := so_goto E.2.2.1 (by decide) dX7_comesBack_83
theorem oo_X7_comesBack_86 {Γ : jΓ} {Q : jPost} (E : E_X7_comesBack Γ Q) : jSA Γ Q 86 (o_iload 7) 2 := so_iload E.2.2.1 dX7_comesBack_86
theorem oo_X7_comesBack_88 {Γ : jΓ} {Q : jPost} (E : E_X7_comesBack Γ Q) : jSA Γ Q 88 (o_iretz) 1 := so_iretz E.2.2.1 E.2.2.2 dX7_comesBack_88
theorem ok_X7_comesBack_0 {Γ : jΓ} {Q : jPost} (E : E_X7_comesBack Γ Q) : jSS Γ Q 0 sg_X7_comesBack_0 := ⟨oo_X7_comesBack_0 E, oo_X7_comesBack_1 E, oo_X7_comesBack_3 E, oo_X7_comesBack_4 E, oo_X7_comesBack_6 E, oo_X7_comesBack_7 E, trivial⟩
theorem ok_X7_comesBack_9 {Γ : jΓ} {Q : jPost} (E : E_X7_comesBack Γ Q) : jSS Γ Q 9 sg_X7_comesBack_9 := ⟨oo_X7_comesBack_9 E, oo_X7_comesBack_11 E, oo_X7_comesBack_14 E, oo_X7_comesBack_16 E, oo_X7_comesBack_18 E, oo_X7_comesBack_21 E, oo_X7_comesBack_24 E, oo_X7_comesBack_26 E, oo_X7_comesBack_27 E, oo_X7_comesBack_28 E, oo_X7_comesBack_30 E, oo_X7_comesBack_32 E, oo_X7_comesBack_33 E, oo_X7_comesBack_36 E, trivial⟩
theorem ok_X7_comesBack_39 {Γ : jΓ} {Q : jPost} (E : E_X7_comesBack Γ Q) : jSS Γ Q 39 sg_X7_comesBack_39 := ⟨oo_X7_comesBack_39 E, oo_X7_comesBack_40 E, oo_X7_comesBack_42 E, oo_X7_comesBack_43 E, oo_X7_comesBack_44 E, oo_X7_comesBack_46 E, oo_X7_comesBack_48 E, oo_X7_comesBack_49 E, oo_X7_comesBack_52 E, oo_X7_comesBack_53 E, oo_X7_comesBack_55 E, oo_X7_comesBack_57 E, oo_X7_comesBack_60 E, oo_X7_comesBack_63 E, oo_X7_comesBack_64 E, trivial⟩
theorem ok_X7_comesBack_67 {Γ : jΓ} {Q : jPost} (E : E_X7_comesBack Γ Q) : jSS Γ Q 67 sg_X7_comesBack_67 := ⟨oo_X7_comesBack_67 E, trivial⟩
theorem ok_X7_comesBack_68 {Γ : jΓ} {Q : jPost} (E : E_X7_comesBack Γ Q) : jSS Γ Q 68 sg_X7_comesBack_68 := ⟨oo_X7_comesBack_68 E, oo_X7_comesBack_70 E, oo_X7_comesBack_72 E, oo_X7_comesBack_73 E, oo_X7_comesBack_74 E, oo_X7_comesBack_76 E, oo_X7_comesBack_78 E, oo_X7_comesBack_80 E, oo_X7_comesBack_81 E, oo_X7_comesBack_83 E, trivial⟩
theorem ok_X7_comesBack_86 {Γ : jΓ} {Q : jPost} (E : E_X7_comesBack Γ Q) : jSS Γ Q 86 sg_X7_comesBack_86 := ⟨oo_X7_comesBack_86 E, oo_X7_comesBack_88 E, trivial⟩
theorem okc_X7_comesBack {Γ : jΓ} {Q : jPost} (E : E_X7_comesBack Γ Q) (t : Nat) : jSS Γ Q t (cd_X7_comesBack t) := by
  unfold cd_X7_comesBack
  split
  · exact ok_X7_comesBack_67 E
  · exact ok_X7_comesBack_86 E
  · trivial
theorem m_X7_comesBack_of (l : Launch) (hv : ∀ (G : jGt) (Q : jPost) (vs : List Value) (K : List jK) (h : jM), jHd cd_X7_comesBack G Q sg_X7_comesBack_0 0 → jHd cd_X7_comesBack G Q sg_X7_comesBack_9 9 → jHd cd_X7_comesBack G Q sg_X7_comesBack_39 39 → jHd cd_X7_comesBack G Q sg_X7_comesBack_68 68 → T_X7_comesBack vs K h Q → (lg_sl vs).length ≤ 8 ∧ G 0 (jinit vs 8) [] K h 0 0) : jHolds vwCl l yX7_comesBack wsX7_comesBack 3 65 0 0 T_X7_comesBack := by
  refine jMet (cc := cX7_comesBack) (maxL := 8) (rt := (some .boolean)) (by decide +kernel) rfl (fun Γ Q vs K h hl hn hcl C hR hT => hv (jG Γ) Q vs K h ?_ ?_ ?_ ?_ hT)
  · exact fun n L st K h ce sl => jwp_ok (okc_X7_comesBack ⟨hn, hcl, C, hR⟩) n sg_X7_comesBack_0 0 (ok_X7_comesBack_0 ⟨hn, hcl, C, hR⟩) L st K h ce sl
  · exact fun n L st K h ce sl => jwp_ok (okc_X7_comesBack ⟨hn, hcl, C, hR⟩) n sg_X7_comesBack_9 9 (ok_X7_comesBack_9 ⟨hn, hcl, C, hR⟩) L st K h ce sl
  · exact fun n L st K h ce sl => jwp_ok (okc_X7_comesBack ⟨hn, hcl, C, hR⟩) n sg_X7_comesBack_39 39 (ok_X7_comesBack_39 ⟨hn, hcl, C, hR⟩) L st K h ce sl
  · exact fun n L st K h ce sl => jwp_ok (okc_X7_comesBack ⟨hn, hcl, C, hR⟩) n sg_X7_comesBack_68 68 (ok_X7_comesBack_68 ⟨hn, hcl, C, hR⟩) L st K h ce sl
set_option maxHeartbeats 4000000 in
set_option maxRecDepth 100000 in
theorem v_X7_comesBack {G : jGt} {Q : jPost} {K : List jK} {h : jM} {x : Int32} {y : Int32} {u : Int32} {v : Int32} (hT : jXM K ∧ onF x y ∧ (¬ u = 0 ∨ ¬ v = 0) ∧ (-239 ≤ u.toInt ∧ u.toInt ≤ 239) ∧ (-239 ≤ v.toInt ∧ v.toInt ≤ 239) ∧ Q (some (.int (jb (jcy (h 38) (h 52) u v x y)))) K h) (H0 : jHd cd_X7_comesBack G Q sg_X7_comesBack_0 0) (H9 : jHd cd_X7_comesBack G Q sg_X7_comesBack_9 9) (H39 : jHd cd_X7_comesBack G Q sg_X7_comesBack_39 39) (H68 : jHd cd_X7_comesBack G Q sg_X7_comesBack_68 68) : G 0 [some (.ref 37), some (.int x), some (.int y), some (.int u), some (.int v), none, none, none] [] K h 0 0 := by
  obtain ⟨hM, hxy, huv, hu, hv, hT⟩ := hT
  obtain ⟨N, hN⟩ : ∃ N, N = 240 := ⟨_, rfl⟩
  have eN : jcy (h 38) (h 52) u v x y = jcarry (h 38) (h 52) u v N x y := propext ⟨fun z => by obtain ⟨M, hM, z⟩ := z; rw [hN, ← hM]; exact z, fun z => ⟨N, hN, z⟩⟩
  rw [eN] at hT
  clear eN
  have hn : ∀ (a b : Int32), Q (some (.int 0)) K h → G 9 [some (.ref 37), some (.int x), some (.int y), some (.int u), some (.int v), some (.int a), some (.int b), some (.int 0)] [] K h 0 0 := by
    intro a b hq
    refine H9 60 _ _ _ _ _ _ ?_
    simp only [sg_X7_comesBack_0, sg_X7_comesBack_9, sg_X7_comesBack_39, sg_X7_comesBack_67, sg_X7_comesBack_68, sg_X7_comesBack_86, cd_X7_comesBack, jwp, o_ic, o_lc, o_iload, o_lload, o_aload, o_istore, o_lstore, o_astore, o_iinc, o_pop, o_dup, o_dup2, o_iadd, o_isub, o_imul, o_iand, o_ior, o_ishl, o_ladd, o_lmul, o_land, o_lor, o_idiv, o_irem, o_ineg, o_i2l, o_l2i, o_i2b, o_i2s, o_lushr, o_lshr, o_lshl, o_lcmp, o_ifeq, o_ifne, o_iflt, o_ifge, o_ifgt, o_ifle, o_iceq, o_icne, o_iclt, o_icge, o_icgt, o_icle, o_goto, o_tsw, jsw, o_lsw, jlk, o_getf, o_putf, o_putz, o_iald, o_zald, o_iast, o_zast, o_aald, o_alen, o_gets, o_zld, o_zlen, o_cpy, o_call, o_callV, o_ireti, o_iretz, o_lret, o_vret, jg, js, jkp, jkill, jsp, jcs, jfw, jov, Value.category, Option.toList_some, Option.toList_none, List.nil_append, List.cons_append, List.append_nil, Nat.reduceAdd, true_and, and_true, jb0, jb01, jb1, jem, true_or, or_true, Classical.not_not, forall_const, List.length_cons, List.length_nil, Nat.reduceLeDiff, Nat.zero_le, Nat.reduceLT, and_self, not_true_eq_false, not_false_eq_true, false_imp_iff, true_imp_iff, implies_true, and_false, false_and, or_false, false_or, hM, km_37_0 hM, km_37_1 hM, km_37_2 hM, km_37_3 hM, km_37_4 hM, km_37_5 hM, km_37_6 hM, km_37_7 hM, km_37_8 hM, km_37_9 hM, km_37_10 hM, km_37_11 hM, km_37_12 hM, km_37_13 hM, km_37_14 hM, km_37_15 hM, km_37_16 hM, km_37_17 hM, km_37_18 hM, km_37_19 hM, km_37_20 hM, km_37_21 hM, km_37_22 hM, km_37_23 hM, km_37_24 hM, km_37_25 hM, km_37_26 hM, km_37_27 hM, km_37_28 hM, km_37_29 hM, km_37_30 hM, km_37_31 hM, km_37_32 hM, kmo_37 hM, kma_38 hM, kma_39 hM, kma_40 hM, kma_41 hM, kma_42 hM, kma_43 hM, kma_44 hM, kma_45 hM, kma_46 hM, kma_47 hM, kma_48 hM, kma_49 hM, kma_50 hM, kma_52 hM, kma_53 hM, kma_54 hM, kma_55 hM, kma_56 hM, kma_51 hM]
    exact hq
  have ho : ∀ (a b : Int32), ¬ onF a b → ¬ onF (a + u) (b + v) → Q (some (.int 1)) K h → G 9 [some (.ref 37), some (.int x), some (.int y), some (.int u), some (.int v), some (.int a), some (.int b), some (.int 1)] [] K h 0 0 := by
    intro a b h1 h2 hq
    have h1' := h1
    have h10 : ¬ (1 : Int32) = 0 := by decide
    refine H9 60 _ _ _ _ _ _ ?_
    simp only [sg_X7_comesBack_0, sg_X7_comesBack_9, sg_X7_comesBack_39, sg_X7_comesBack_67, sg_X7_comesBack_68, sg_X7_comesBack_86, cd_X7_comesBack, jwp, o_ic, o_lc, o_iload, o_lload, o_aload, o_istore, o_lstore, o_astore, o_iinc, o_pop, o_dup, o_dup2, o_iadd, o_isub, o_imul, o_iand, o_ior, o_ishl, o_ladd, o_lmul, o_land, o_lor, o_idiv, o_irem, o_ineg, o_i2l, o_l2i, o_i2b, o_i2s, o_lushr, o_lshr, o_lshl, o_lcmp, o_ifeq, o_ifne, o_iflt, o_ifge, o_ifgt, o_ifle, o_iceq, o_icne, o_iclt, o_icge, o_icgt, o_icle, o_goto, o_tsw, jsw, o_lsw, jlk, o_getf, o_putf, o_putz, o_iald, o_zald, o_iast, o_zast, o_aald, o_alen, o_gets, o_zld, o_zlen, o_cpy, o_call, o_callV, o_ireti, o_iretz, o_lret, o_vret, jg, js, jkp, jkill, jsp, jcs, jfw, jov, Value.category, Option.toList_some, Option.toList_none, List.nil_append, List.cons_append, List.append_nil, Nat.reduceAdd, true_and, and_true, jb0, jb01, jb1, jem, true_or, or_true, Classical.not_not, forall_const, List.length_cons, List.length_nil, Nat.reduceLeDiff, Nat.zero_le, Nat.reduceLT, and_self, not_true_eq_false, not_false_eq_true, false_imp_iff, true_imp_iff, implies_true, and_false, false_and, or_false, false_or, hM, km_37_0 hM, km_37_1 hM, km_37_2 hM, km_37_3 hM, km_37_4 hM, km_37_5 hM, km_37_6 hM, km_37_7 hM, km_37_8 hM, km_37_9 hM, km_37_10 hM, km_37_11 hM, km_37_12 hM, km_37_13 hM, km_37_14 hM, km_37_15 hM, km_37_16 hM, km_37_17 hM, km_37_18 hM, km_37_19 hM, km_37_20 hM, km_37_21 hM, km_37_22 hM, km_37_23 hM, km_37_24 hM, km_37_25 hM, km_37_26 hM, km_37_27 hM, km_37_28 hM, km_37_29 hM, km_37_30 hM, km_37_31 hM, km_37_32 hM, kmo_37 hM, kma_38 hM, kma_39 hM, kma_40 hM, kma_41 hM, kma_42 hM, kma_43 hM, kma_44 hM, kma_45 hM, kma_46 hM, kma_47 hM, kma_48 hM, kma_49 hM, kma_50 hM, kma_52 hM, kma_53 hM, kma_54 hM, kma_55 hM, kma_56 hM, kma_51 hM, T_X7_isCell, h1, h2, h10]
    exact hq
  have h68 : ∀ (a b c : Int32), G 9 [some (.ref 37), some (.int x), some (.int y), some (.int u), some (.int v), some (.int (a + u)), some (.int (b + v)), some (.int c)] [] K h 0 0 → G 68 [some (.ref 37), some (.int x), some (.int y), some (.int u), some (.int v), some (.int a), some (.int b), some (.int 1)] [.int c] K h 0 0 := by
    intro a b c hG
    refine H68 60 _ _ _ _ _ _ ?_
    simp only [sg_X7_comesBack_0, sg_X7_comesBack_9, sg_X7_comesBack_39, sg_X7_comesBack_67, sg_X7_comesBack_68, sg_X7_comesBack_86, cd_X7_comesBack, jwp, o_ic, o_lc, o_iload, o_lload, o_aload, o_istore, o_lstore, o_astore, o_iinc, o_pop, o_dup, o_dup2, o_iadd, o_isub, o_imul, o_iand, o_ior, o_ishl, o_ladd, o_lmul, o_land, o_lor, o_idiv, o_irem, o_ineg, o_i2l, o_l2i, o_i2b, o_i2s, o_lushr, o_lshr, o_lshl, o_lcmp, o_ifeq, o_ifne, o_iflt, o_ifge, o_ifgt, o_ifle, o_iceq, o_icne, o_iclt, o_icge, o_icgt, o_icle, o_goto, o_tsw, jsw, o_lsw, jlk, o_getf, o_putf, o_putz, o_iald, o_zald, o_iast, o_zast, o_aald, o_alen, o_gets, o_zld, o_zlen, o_cpy, o_call, o_callV, o_ireti, o_iretz, o_lret, o_vret, jg, js, jkp, jkill, jsp, jcs, jfw, jov, Value.category, Option.toList_some, Option.toList_none, List.nil_append, List.cons_append, List.append_nil, Nat.reduceAdd, true_and, and_true, jb0, jb01, jb1, jem, true_or, or_true, Classical.not_not, forall_const, List.length_cons, List.length_nil, Nat.reduceLeDiff, Nat.zero_le, Nat.reduceLT, and_self, not_true_eq_false, not_false_eq_true, false_imp_iff, true_imp_iff, implies_true, and_false, false_and, or_false, false_or, hM, km_37_0 hM, km_37_1 hM, km_37_2 hM, km_37_3 hM, km_37_4 hM, km_37_5 hM, km_37_6 hM, km_37_7 hM, km_37_8 hM, km_37_9 hM, km_37_10 hM, km_37_11 hM, km_37_12 hM, km_37_13 hM, km_37_14 hM, km_37_15 hM, km_37_16 hM, km_37_17 hM, km_37_18 hM, km_37_19 hM, km_37_20 hM, km_37_21 hM, km_37_22 hM, km_37_23 hM, km_37_24 hM, km_37_25 hM, km_37_26 hM, km_37_27 hM, km_37_28 hM, km_37_29 hM, km_37_30 hM, km_37_31 hM, km_37_32 hM, kmo_37 hM, kma_38 hM, kma_39 hM, kma_40 hM, kma_41 hM, kma_42 hM, kma_43 hM, kma_44 hM, kma_45 hM, kma_46 hM, kma_47 hM, kma_48 hM, kma_49 hM, kma_50 hM, kma_52 hM, kma_53 hM, kma_54 hM, kma_55 hM, kma_56 hM, kma_51 hM]
    exact hG
  have loop : ∀ n (a b : Int32), onF a b → crM u v a b n → Q (some (.int (jb (jcarry (h 38) (h 52) u v n a b)))) K h → G 9 [some (.ref 37), some (.int x), some (.int y), some (.int u), some (.int v), some (.int a), some (.int b), some (.int 1)] [] K h 0 0 := by
    intro n
    induction n with
    | zero =>
      intro a b hab hm hq
      exact absurd hm (crM_0 hab huv)
    | succ n ih =>
      intro a b hab hm hq
      have e0 : jcarry (h 38) (h 52) u v (n + 1) a b = (jcol (h 38) (a + u) (b + v) = jcol (h 52) a b ∧ jcarry (h 38) (h 52) u v n (a + u) (b + v)) := propext ⟨fun z => z hab, fun z _ => z⟩
      rw [e0] at hq
      clear e0
      have h10 : ¬ (1 : Int32) = 0 := by decide
      have h39 : G 39 [some (.ref 37), some (.int x), some (.int y), some (.int u), some (.int v), some (.int a), some (.int b), some (.int 1)] [] K h 0 0 := by
        have c1 : jcol (h 38) (a + u) (b + v) = jcol (h 52) a b → G 68 [some (.ref 37), some (.int x), some (.int y), some (.int u), some (.int v), some (.int a), some (.int b), some (.int 1)] [.int 1] K h 0 0 := fun c => by
          refine h68 a b 1 ?_
          have e : (jcol (h 38) (a + u) (b + v) = jcol (h 52) a b ∧ jcarry (h 38) (h 52) u v n (a + u) (b + v)) = jcarry (h 38) (h 52) u v n (a + u) (b + v) := propext ⟨fun z => z.2, fun z => ⟨c, z⟩⟩
          rw [e] at hq
          by_cases c2 : onF (a + u) (b + v)
          · exact ih (a + u) (b + v) c2 (crM_s hab hu hv huv hm) hq
          · refine ho _ _ c2 (cr_off hab hu hv c2) ?_
            have e2 : jcarry (h 38) (h 52) u v n (a + u) (b + v) := by
              cases n with
              | zero => trivial
              | succ n => exact fun z => absurd z c2
            rw [jb_pos e2] at hq
            exact hq
        have c0 : ¬ jcol (h 38) (a + u) (b + v) = jcol (h 52) a b → G 68 [some (.ref 37), some (.int x), some (.int y), some (.int u), some (.int v), some (.int a), some (.int b), some (.int 1)] [.int 0] K h 0 0 := fun c => by
          refine h68 a b 0 (hn _ _ ?_)
          rw [jb_neg (fun z => c z.1)] at hq
          exact hq
        refine H39 60 _ _ _ _ _ _ ?_
        simp only [sg_X7_comesBack_0, sg_X7_comesBack_9, sg_X7_comesBack_39, sg_X7_comesBack_67, sg_X7_comesBack_68, sg_X7_comesBack_86, cd_X7_comesBack, jwp, o_ic, o_lc, o_iload, o_lload, o_aload, o_istore, o_lstore, o_astore, o_iinc, o_pop, o_dup, o_dup2, o_iadd, o_isub, o_imul, o_iand, o_ior, o_ishl, o_ladd, o_lmul, o_land, o_lor, o_idiv, o_irem, o_ineg, o_i2l, o_l2i, o_i2b, o_i2s, o_lushr, o_lshr, o_lshl, o_lcmp, o_ifeq, o_ifne, o_iflt, o_ifge, o_ifgt, o_ifle, o_iceq, o_icne, o_iclt, o_icge, o_icgt, o_icle, o_goto, o_tsw, jsw, o_lsw, jlk, o_getf, o_putf, o_putz, o_iald, o_zald, o_iast, o_zast, o_aald, o_alen, o_gets, o_zld, o_zlen, o_cpy, o_call, o_callV, o_ireti, o_iretz, o_lret, o_vret, jg, js, jkp, jkill, jsp, jcs, jfw, jov, Value.category, Option.toList_some, Option.toList_none, List.nil_append, List.cons_append, List.append_nil, Nat.reduceAdd, true_and, and_true, jb0, jb01, jb1, jem, true_or, or_true, Classical.not_not, forall_const, List.length_cons, List.length_nil, Nat.reduceLeDiff, Nat.zero_le, Nat.reduceLT, and_self, not_true_eq_false, not_false_eq_true, false_imp_iff, true_imp_iff, implies_true, and_false, false_and, or_false, false_or, hM, km_37_0 hM, km_37_1 hM, km_37_2 hM, km_37_3 hM, km_37_4 hM, km_37_5 hM, km_37_6 hM, km_37_7 hM, km_37_8 hM, km_37_9 hM, km_37_10 hM, km_37_11 hM, km_37_12 hM, km_37_13 hM, km_37_14 hM, km_37_15 hM, km_37_16 hM, km_37_17 hM, km_37_18 hM, km_37_19 hM, km_37_20 hM, km_37_21 hM, km_37_22 hM, km_37_23 hM, km_37_24 hM, km_37_25 hM, km_37_26 hM, km_37_27 hM, km_37_28 hM, km_37_29 hM, km_37_30 hM, km_37_31 hM, km_37_32 hM, kmo_37 hM, kma_38 hM, kma_39 hM, kma_40 hM, kma_41 hM, kma_42 hM, kma_43 hM, kma_44 hM, kma_45 hM, kma_46 hM, kma_47 hM, kma_48 hM, kma_49 hM, kma_50 hM, kma_52 hM, kma_53 hM, kma_54 hM, kma_55 hM, kma_56 hM, kma_51 hM, T_X7_colourAt, T_X7_markedAt]
        first | exact ⟨c0, c1⟩ | exact ⟨c1, c0⟩
      refine H9 60 _ _ _ _ _ _ ?_
      simp only [sg_X7_comesBack_0, sg_X7_comesBack_9, sg_X7_comesBack_39, sg_X7_comesBack_67, sg_X7_comesBack_68, sg_X7_comesBack_86, cd_X7_comesBack, jwp, o_ic, o_lc, o_iload, o_lload, o_aload, o_istore, o_lstore, o_astore, o_iinc, o_pop, o_dup, o_dup2, o_iadd, o_isub, o_imul, o_iand, o_ior, o_ishl, o_ladd, o_lmul, o_land, o_lor, o_idiv, o_irem, o_ineg, o_i2l, o_l2i, o_i2b, o_i2s, o_lushr, o_lshr, o_lshl, o_lcmp, o_ifeq, o_ifne, o_iflt, o_ifge, o_ifgt, o_ifle, o_iceq, o_icne, o_iclt, o_icge, o_icgt, o_icle, o_goto, o_tsw, jsw, o_lsw, jlk, o_getf, o_putf, o_putz, o_iald, o_zald, o_iast, o_zast, o_aald, o_alen, o_gets, o_zld, o_zlen, o_cpy, o_call, o_callV, o_ireti, o_iretz, o_lret, o_vret, jg, js, jkp, jkill, jsp, jcs, jfw, jov, Value.category, Option.toList_some, Option.toList_none, List.nil_append, List.cons_append, List.append_nil, Nat.reduceAdd, true_and, and_true, jb0, jb01, jb1, jem, true_or, or_true, Classical.not_not, forall_const, List.length_cons, List.length_nil, Nat.reduceLeDiff, Nat.zero_le, Nat.reduceLT, and_self, not_true_eq_false, not_false_eq_true, false_imp_iff, true_imp_iff, implies_true, and_false, false_and, or_false, false_or, hM, km_37_0 hM, km_37_1 hM, km_37_2 hM, km_37_3 hM, km_37_4 hM, km_37_5 hM, km_37_6 hM, km_37_7 hM, km_37_8 hM, km_37_9 hM, km_37_10 hM, km_37_11 hM, km_37_12 hM, km_37_13 hM, km_37_14 hM, km_37_15 hM, km_37_16 hM, km_37_17 hM, km_37_18 hM, km_37_19 hM, km_37_20 hM, km_37_21 hM, km_37_22 hM, km_37_23 hM, km_37_24 hM, km_37_25 hM, km_37_26 hM, km_37_27 hM, km_37_28 hM, km_37_29 hM, km_37_30 hM, km_37_31 hM, km_37_32 hM, kmo_37 hM, kma_38 hM, kma_39 hM, kma_40 hM, kma_41 hM, kma_42 hM, kma_43 hM, kma_44 hM, kma_45 hM, kma_46 hM, kma_47 hM, kma_48 hM, kma_49 hM, kma_50 hM, kma_52 hM, kma_53 hM, kma_54 hM, kma_55 hM, kma_56 hM, kma_51 hM, T_X7_isCell, hab, h10]
      exact h39
  have h0 := loop N x y hxy (crM_i hxy hN) hT
  refine H0 60 _ _ _ _ _ _ ?_
  simp only [sg_X7_comesBack_0, sg_X7_comesBack_9, sg_X7_comesBack_39, sg_X7_comesBack_67, sg_X7_comesBack_68, sg_X7_comesBack_86, cd_X7_comesBack, jwp, o_ic, o_lc, o_iload, o_lload, o_aload, o_istore, o_lstore, o_astore, o_iinc, o_pop, o_dup, o_dup2, o_iadd, o_isub, o_imul, o_iand, o_ior, o_ishl, o_ladd, o_lmul, o_land, o_lor, o_idiv, o_irem, o_ineg, o_i2l, o_l2i, o_i2b, o_i2s, o_lushr, o_lshr, o_lshl, o_lcmp, o_ifeq, o_ifne, o_iflt, o_ifge, o_ifgt, o_ifle, o_iceq, o_icne, o_iclt, o_icge, o_icgt, o_icle, o_goto, o_tsw, jsw, o_lsw, jlk, o_getf, o_putf, o_putz, o_iald, o_zald, o_iast, o_zast, o_aald, o_alen, o_gets, o_zld, o_zlen, o_cpy, o_call, o_callV, o_ireti, o_iretz, o_lret, o_vret, jg, js, jkp, jkill, jsp, jcs, jfw, jov, Value.category, Option.toList_some, Option.toList_none, List.nil_append, List.cons_append, List.append_nil, Nat.reduceAdd, true_and, and_true, jb0, jb01, jb1, jem, true_or, or_true, Classical.not_not, forall_const, List.length_cons, List.length_nil, Nat.reduceLeDiff, Nat.zero_le, Nat.reduceLT, and_self, not_true_eq_false, not_false_eq_true, false_imp_iff, true_imp_iff, implies_true, and_false, false_and, or_false, false_or, hM, km_37_0 hM, km_37_1 hM, km_37_2 hM, km_37_3 hM, km_37_4 hM, km_37_5 hM, km_37_6 hM, km_37_7 hM, km_37_8 hM, km_37_9 hM, km_37_10 hM, km_37_11 hM, km_37_12 hM, km_37_13 hM, km_37_14 hM, km_37_15 hM, km_37_16 hM, km_37_17 hM, km_37_18 hM, km_37_19 hM, km_37_20 hM, km_37_21 hM, km_37_22 hM, km_37_23 hM, km_37_24 hM, km_37_25 hM, km_37_26 hM, km_37_27 hM, km_37_28 hM, km_37_29 hM, km_37_30 hM, km_37_31 hM, km_37_32 hM, kmo_37 hM, kma_38 hM, kma_39 hM, kma_40 hM, kma_41 hM, kma_42 hM, kma_43 hM, kma_44 hM, kma_45 hM, kma_46 hM, kma_47 hM, kma_48 hM, kma_49 hM, kma_50 hM, kma_52 hM, kma_53 hM, kma_54 hM, kma_55 hM, kma_56 hM, kma_51 hM]
  exact h0
theorem m_X7_comesBack (l : Launch) : jHolds vwCl l yX7_comesBack wsX7_comesBack 3 65 0 0 T_X7_comesBack := by
  refine m_X7_comesBack_of l (fun G Q vs K h H0 H9 H39 H68 hT => ?_)
  unfold T_X7_comesBack at hT
  split at hT
  · obtain ⟨rfl, hT⟩ := hT
    exact ⟨Nat.le_of_ble_eq_true rfl, v_X7_comesBack hT H0 H9 H39 H68⟩
  · exact hT.elim
