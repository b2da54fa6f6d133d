/-! ===== whole steps of the reference ===== -/
/-- one more at the places P 0 .. P (k - 1), which are then trodden -/
noncomputable def mVs (P : Nat → Nat) (g : jM) : Nat → jM
  | 0 => g
  | k + 1 => up2 (up2 (mVs P g k) 39 (P k) (mVs P g k 39 (P k) + 1)) 51 (P k) 1
/-- one less at the places P 0 .. P (k - 1) -/
noncomputable def mVb (P : Nat → Nat) (g : jM) : Nat → jM
  | 0 => g
  | k + 1 => up2 (mVb P g k) 39 (P k) (mVb P g k 39 (P k) - 1)
theorem mVs_s (P : Nat → Nat) (g : jM) (k : Nat) : mVs P g (k + 1) = up2 (up2 (mVs P g k) 39 (P k) (mVs P g k 39 (P k) + 1)) 51 (P k) 1 := rfl
theorem mVb_s (P : Nat → Nat) (g : jM) (k : Nat) : mVb P g (k + 1) = up2 (mVb P g k) 39 (P k) (mVb P g k 39 (P k) - 1) := rfl
theorem mVs_o (P : Nat → Nat) (g : jM) : ∀ (k : Nat) {c : Nat}, ¬ c = 39 → ¬ c = 51 → mVs P g k c = g c
  | 0, c, _, _ => rfl
  | k + 1, c, h1, h2 => by
    show up2 (up2 _ 39 _ _) 51 _ _ c = _
    rw [up2_n h2, up2_n h1]; exact mVs_o P g k h1 h2
theorem mVb_o (P : Nat → Nat) (g : jM) : ∀ (k : Nat) {c : Nat}, ¬ c = 39 → mVb P g k c = g c
  | 0, c, _ => rfl
  | k + 1, c, h1 => by
    show up2 _ 39 _ _ c = _
    rw [up2_n h1]; exact mVb_o P g k h1
theorem mVs_39 (P : Nat → Nat) (g : jM) : ∀ k, mVs P g k 39 = vB P (g 39) k
  | 0 => rfl
  | k + 1 => by
    show up2 (up2 _ 39 _ _) 51 _ _ 39 = upd _ _ _
    rw [up2_n (by decide), up2_s, mVs_39 P g k]
/-- one less, first P 0 -/
def vA (P : Nat → Nat) (v : Nat → Int32) : Nat → Nat → Int32
  | 0 => v
  | i + 1 => upd (vA P v i) (P i) (vA P v i (P i) - 1)
theorem mVb_39 (P : Nat → Nat) (g : jM) : ∀ k, mVb P g k 39 = vA P (g 39) k
  | 0 => rfl
  | k + 1 => by
    show up2 _ 39 _ _ 39 = upd _ _ _
    rw [up2_s, mVb_39 P g k]

/-! X7_steps -/
def T_X7_steps : jT := fun vs K h Q => match vs with
  | [.ref r0] => r0 = 37 ∧ (jXM K ∧ (∃ cnt : Nat, cnt ≤ 6 ∧ h 37 8 = nI cnt ∧ (0 ≤ (h 37 14).toInt ∧ (h 37 14).toInt + 6 < 2147483648) ∧ (h 37 0 = 0 ∨ h 37 0 = 1) ∧ aVal (mQ h) (mS h) cnt ∧ (aAll (mQ h) (mS h) cnt → ∀ g, mS g = aActs (mQ h) (mS h) cnt → mQ g = mQ h → frM h g → (∀ b, b < cnt → g 46 b = nI (aP (mS h) b)) → Q (some (.int 1)) K (mMt (up2 (mVs (aP (mS h)) g cnt) 37 4 (mVs (aP (mS h)) g cnt 37 4 + 1)) cnt cnt)) ∧ (¬ aAll (mQ h) (mS h) cnt → ∀ g, mS g = mS h → mQ g = mQ h → frM h g → Q (some (.int 0)) K g)))
  | _ => False
def sg_X7_steps_0 : jS := [(o_ic (0), 1), (o_istore 1, 1)]
def sg_X7_steps_2 : jS := [(o_iload 1, 1), (o_aload 0, 1), (o_getf 7 8, 3), (o_icge 24, 3), (o_aload 0, 1), (o_iload 1, 1), (o_callV 2 7 T_X7_acts, 3), (o_ifeq 24, 3), (o_iinc 1 (1), 3), (o_goto 2, 3)]
def sg_X7_steps_24 : jS := [(o_iload 1, 1), (o_aload 0, 1), (o_getf 7 8, 3), (o_icge 54, 3), (o_iload 1, 1), (o_ic (1), 1), (o_isub, 1), (o_istore 2, 1)]
def sg_X7_steps_36 : jS := [(o_iload 2, 1), (o_iflt 52, 3), (o_aload 0, 1), (o_iload 2, 1), (o_callV 2 7 T_X7_actsBack, 3), (o_istore 3, 1)]
def sg_X7_steps_46 : jS := [(o_iinc 2 (-1), 3), (o_goto 36, 3)]
def sg_X7_steps_52 : jS := [(o_ic (0), 1), (o_iretz, 1)]
def sg_X7_steps_54 : jS := [(o_ic (0), 1), (o_istore 2, 1)]
def sg_X7_steps_56 : jS := [(o_iload 2, 1), (o_aload 0, 1), (o_getf 7 8, 3), (o_icge 97, 3), (o_aload 0, 1), (o_getf 7 3, 3), (o_aload 0, 1), (o_getf 7 13, 3), (o_iload 2, 1), (o_iald, 1), (o_dup2, 1), (o_iald, 1), (o_ic (1), 1), (o_iadd, 1), (o_iast, 1), (o_aload 0, 1), (o_getf 7 22, 3), (o_aload 0, 1), (o_getf 7 13, 3), (o_iload 2, 1), (o_iald, 1), (o_ic (1), 1), (o_zast, 1), (o_iinc 2 (1), 3), (o_goto 56, 3)]
def sg_X7_steps_97 : jS := [(o_aload 0, 1), (o_dup, 1), (o_getf 7 4, 3), (o_ic (1), 1), (o_iadd, 1), (o_putf 7 4, 3), (o_aload 0, 1), (o_callV 1 7 T_X7_meet, 3), (o_ic (1), 1), (o_iretz, 1)]
def cd_X7_steps : Nat → jS := fun t => match t with
  | 24 => sg_X7_steps_24
  | 52 => sg_X7_steps_52
  | 54 => sg_X7_steps_54
  | 97 => sg_X7_steps_97
  | _ => []
theorem wl_X7_steps_18 : Cond.fieldLink RX7 18 (TX7 3).1 (TX7 3).2.1 (TX7 3).2.2.1 ∈ wsX7_steps := by decide +kernel
theorem wl_X7_steps_39 : Cond.fieldLink RX7 39 (TX7 13).1 (TX7 13).2.1 (TX7 13).2.2.1 ∈ wsX7_steps := by decide +kernel
theorem wl_X7_steps_54 : Cond.fieldLink RX7 54 (TX7 22).1 (TX7 22).2.1 (TX7 22).2.2.1 ∈ wsX7_steps := by decide +kernel
theorem wl_X7_steps_81 : Cond.fieldLink RX7 81 (TX7 8).1 (TX7 8).2.1 (TX7 8).2.2.1 ∈ wsX7_steps := by decide +kernel
theorem wl_X7_steps_91 : Cond.fieldLink RX7 91 (TX7 4).1 (TX7 4).2.1 (TX7 4).2.2.1 ∈ wsX7_steps := by decide +kernel
theorem wi_X7_steps_X7 : ∀ w ∈ u_ws RX7 TX7 33, w ∈ wsX7_steps := by decide +kernel
def E_X7_steps (Γ : jΓ) (Q : jPost) : Prop := Γ.2.2.2.2.2.2.2.2.2.2.1 = 4 ∧ Γ.2.2.2.2.2.2.2.2.2.2.2.1 = vwCl ∧ jC Γ cX7_steps RX7 "steps" (some .boolean) wsX7_steps 3 69 0 0 ∧ jR Γ Q 0 0
theorem oo_X7_steps_0 {Γ : jΓ} {Q : jPost} (E : E_X7_steps Γ Q) : jSA Γ Q 0 (o_ic (0)) 1 := so_iconst E.2.2.1 rfl dX7_steps_0
theorem oo_X7_steps_1 {Γ : jΓ} {Q : jPost} (E : E_X7_steps Γ Q) : jSA Γ Q 1 (o_istore 1) 1 := so_istore_n E.2.2.1 rfl (by rw [E.1]; decide) dX7_steps_1
theorem oo_X7_steps_2 {Γ : jΓ} {Q : jPost} (E : E_X7_steps Γ Q) : jSA Γ Q 2 (o_iload 1) 1 := so_iload_n E.2.2.1 rfl dX7_steps_2
theorem oo_X7_steps_3 {Γ : jΓ} {Q : jPost} (E : E_X7_steps Γ Q) : jSA Γ Q 3 (o_aload 0) 1 := so_aload_n E.2.2.1 rfl dX7_steps_3
theorem oo_X7_steps_4 {Γ : jΓ} {Q : jPost} (E : E_X7_steps Γ Q) : jSA Γ Q 4 (o_getf 7 8) 3 := so_getf (ci := 7) E.2.2.1 wi_X7_steps_X7 (by rw [E.2.1]; rfl) 8 (by decide) wl_X7_steps_81 dX7_steps_4
theorem oo_X7_steps_7 {Γ : jΓ} {Q : jPost} (E : E_X7_steps Γ Q) : jSA Γ Q 7 (o_icge 24) 3 := so_icge E.2.2.1 (by decide) dX7_steps_7
theorem oo_X7_steps_10 {Γ : jΓ} {Q : jPost} (E : E_X7_steps Γ Q) : jSA Γ Q 10 (o_aload 0) 1 := so_aload_n E.2.2.1 rfl dX7_steps_10
theorem oo_X7_steps_11 {Γ : jΓ} {Q : jPost} (E : E_X7_steps Γ Q) : jSA Γ Q 11 (o_iload 1) 1 := so_iload_n E.2.2.1 rfl dX7_steps_11
theorem oo_X7_steps_12 {Γ : jΓ} {Q : jPost} (E : E_X7_steps Γ Q) : jSA Γ Q 12 (o_callV 2 7 T_X7_acts) 3 := so_callV E.2.2.1 (ci := 7) (by rw [E.2.1]; rfl) gX7_steps_X7_acts (by decide +kernel) rfl (by rw [E.2.1]; exact m_X7_acts _) (by decide) (by decide) dX7_steps_12
theorem oo_X7_steps_15 {Γ : jΓ} {Q : jPost} (E : E_X7_steps Γ Q) : jSA Γ Q 15 (o_ifeq 24) 3 := so_ifeq E.2.2.1 (by decide) dX7_steps_15
theorem oo_X7_steps_18 {Γ : jΓ} {Q : jPost} (E : E_X7_steps Γ Q) : jSA Γ Q 18 (o_iinc 1 (1)) 3 := so_iinc E.2.2.1 rfl (by rw [E.1]; decide) dX7_steps_18
theorem oo_X7_steps_21 {Γ : jΓ} {Q : jPost} (E : E_X7_steps Γ Q) : jSA Γ Q 21 (o_goto 2) 3 := so_goto E.2.2.1 (by decide) dX7_steps_21
theorem oo_X7_steps_24 {Γ : jΓ} {Q : jPost} (E : E_X7_steps Γ Q) : jSA Γ Q 24 (o_iload 1) 1 := so_iload_n E.2.2.1 rfl dX7_steps_24
theorem oo_X7_steps_25 {Γ : jΓ} {Q : jPost} (E : E_X7_steps Γ Q) : jSA Γ Q 25 (o_aload 0) 1 := so_aload_n E.2.2.1 rfl dX7_steps_25
theorem oo_X7_steps_26 {Γ : jΓ} {Q : jPost} (E : E_X7_steps Γ Q) : jSA Γ Q 26 (o_getf 7 8) 3 := so_getf (ci := 7) E.2.2.1 wi_X7_steps_X7 (by rw [E.2.1]; rfl) 8 (by decide) wl_X7_steps_81 dX7_steps_26
theorem oo_X7_steps_29 {Γ : jΓ} {Q : jPost} (E : E_X7_steps Γ Q) : jSA Γ Q 29 (o_icge 54) 3 := so_icge E.2.2.1 (by decide) dX7_steps_29
theorem oo_X7_steps_32 {Γ : jΓ} {Q : jPost} (E : E_X7_steps Γ Q) : jSA Γ Q 32 (o_iload 1) 1 := so_iload_n E.2.2.1 rfl dX7_steps_32
theorem oo_X7_steps_33 {Γ : jΓ} {Q : jPost} (E : E_X7_steps Γ Q) : jSA Γ Q 33 (o_ic (1)) 1 := so_iconst E.2.2.1 rfl dX7_steps_33
theorem oo_X7_steps_34 {Γ : jΓ} {Q : jPost} (E : E_X7_steps Γ Q) : jSA Γ Q 34 (o_isub) 1 := so_isub E.2.2.1 dX7_steps_34
theorem oo_X7_steps_35 {Γ : jΓ} {Q : jPost} (E : E_X7_steps Γ Q) : jSA Γ Q 35 (o_istore 2) 1 := so_istore_n E.2.2.1 rfl (by rw [E.1]; decide) dX7_steps_35
theorem oo_X7_steps_36 {Γ : jΓ} {Q : jPost} (E : E_X7_steps Γ Q) : jSA Γ Q 36 (o_iload 2) 1 := so_iload_n E.2.2.1 rfl dX7_steps_36
theorem oo_X7_steps_37 {Γ : jΓ} {Q : jPost} (E : E_X7_steps Γ Q) : jSA Γ Q 37 (o_iflt 52) 3 := so_iflt E.2.2.1 (by decide) dX7_steps_37
theorem oo_X7_steps_40 {Γ : jΓ} {Q : jPost} (E : E_X7_steps Γ Q) : jSA Γ Q 40 (o_aload 0) 1 := so_aload_n E.2.2.1 rfl dX7_steps_40
theorem oo_X7_steps_41 {Γ : jΓ} {Q : jPost} (E : E_X7_steps Γ Q) : jSA Γ Q 41 (o_iload 2) 1 := so_iload_n E.2.2.1 rfl dX7_steps_41
theorem oo_X7_steps_42 {Γ : jΓ} {Q : jPost} (E : E_X7_steps Γ Q) : jSA Γ Q 42 (o_callV 2 7 T_X7_actsBack) 3 := so_callV E.2.2.1 (ci := 7) (by rw [E.2.1]; rfl) gX7_steps_X7_actsBack (by decide +kernel) rfl (by rw [E.2.1]; exact m_X7_actsBack _) (by decide) (by decide) dX7_steps_42
theorem oo_X7_steps_45 {Γ : jΓ} {Q : jPost} (E : E_X7_steps Γ Q) : jSA Γ Q 45 (o_istore 3) 1 := so_istore_n E.2.2.1 rfl (by rw [E.1]; decide) dX7_steps_45
theorem oo_X7_steps_46 {Γ : jΓ} {Q : jPost} (E : E_X7_steps Γ Q) : jSA Γ Q 46 (o_iinc 2 (-1)) 3 := so_iinc E.2.2.1 rfl (by rw [E.1]; decide) dX7_steps_46
theorem oo_X7_steps_49 {Γ : jΓ} {Q : jPost} (E : E_X7_steps Γ Q) : jSA Γ Q 49 (o_goto 36) 3 := so_goto E.2.2.1 (by decide) dX7_steps_49
theorem oo_X7_steps_52 {Γ : jΓ} {Q : jPost} (E : E_X7_steps Γ Q) : jSA Γ Q 52 (o_ic (0)) 1 := so_iconst E.2.2.1 rfl dX7_steps_52
theorem oo_X7_steps_53 {Γ : jΓ} {Q : jPost} (E : E_X7_steps Γ Q) : jSA Γ Q 53 (o_iretz) 1 := so_iretz E.2.2.1 E.2.2.2 dX7_steps_53
theorem oo_X7_steps_54 {Γ : jΓ} {Q : jPost} (E : E_X7_steps Γ Q) : jSA Γ Q 54 (o_ic (0)) 1 := so_iconst E.2.2.1 rfl dX7_steps_54
theorem oo_X7_steps_55 {Γ : jΓ} {Q : jPost} (E : E_X7_steps Γ Q) : jSA Γ Q 55 (o_istore 2) 1 := so_istore_n E.2.2.1 rfl (by rw [E.1]; decide) dX7_steps_55
theorem oo_X7_steps_56 {Γ : jΓ} {Q : jPost} (E : E_X7_steps Γ Q) : jSA Γ Q 56 (o_iload 2) 1 := so_iload_n E.2.2.1 rfl dX7_steps_56
theorem oo_X7_steps_57 {Γ : jΓ} {Q : jPost} (E : E_X7_steps Γ Q) : jSA Γ Q 57 (o_aload 0) 1 := so_aload_n E.2.2.1 rfl dX7_steps_57
theorem oo_X7_steps_58 {Γ : jΓ} {Q : jPost} (E : E_X7_steps Γ Q) : jSA Γ Q 58 (o_getf 7 8) 3 := so_getf (ci := 7) E.2.2.1 wi_X7_steps_X7 (by rw [E.2.1]; rfl) 8 (by decide) wl_X7_steps_81 dX7_steps_58
theorem oo_X7_steps_61 {Γ : jΓ} {Q : jPost} (E : E_X7_steps Γ Q) : jSA Γ Q 61 (o_icge 97) 3 := so_icge E.2.2.1 (by decide) dX7_steps_61
theorem oo_X7_steps_64 {Γ : jΓ} {Q : jPost} (E : E_X7_steps Γ Q) : jSA Γ Q 64 (o_aload 0) 1 := so_aload_n E.2.2.1 rfl dX7_steps_64
theorem oo_X7_steps_65 {Γ : jΓ} {Q : jPost} (E : E_X7_steps Γ Q) : jSA Γ Q 65 (o_getf 7 3) 3 := so_getf (ci := 7) E.2.2.1 wi_X7_steps_X7 (by rw [E.2.1]; rfl) 3 (by decide) wl_X7_steps_18 dX7_steps_65
theorem oo_X7_steps_68 {Γ : jΓ} {Q : jPost} (E : E_X7_steps Γ Q) : jSA Γ Q 68 (o_aload 0) 1 := so_aload_n E.2.2.1 rfl dX7_steps_68
theorem oo_X7_steps_69 {Γ : jΓ} {Q : jPost} (E : E_X7_steps Γ Q) : jSA Γ Q 69 (o_getf 7 13) 3 := so_getf (ci := 7) E.2.2.1 wi_X7_steps_X7 (by rw [E.2.1]; rfl) 13 (by decide) wl_X7_steps_39 dX7_steps_69
theorem oo_X7_steps_72 {Γ : jΓ} {Q : jPost} (E : E_X7_steps Γ Q) : jSA Γ Q 72 (o_iload 2) 1 := so_iload_n E.2.2.1 rfl dX7_steps_72
theorem oo_X7_steps_73 {Γ : jΓ} {Q : jPost} (E : E_X7_steps Γ Q) : jSA Γ Q 73 (o_iald) 1 := so_iald E.2.2.1 dX7_steps_73
theorem oo_X7_steps_74 {Γ : jΓ} {Q : jPost} (E : E_X7_steps Γ Q) : jSA Γ Q 74 (o_dup2) 1 := so_dup2 E.2.2.1 dX7_steps_74
theorem oo_X7_steps_75 {Γ : jΓ} {Q : jPost} (E : E_X7_steps Γ Q) : jSA Γ Q 75 (o_iald) 1 := so_iald E.2.2.1 dX7_steps_75
theorem oo_X7_steps_76 {Γ : jΓ} {Q : jPost} (E : E_X7_steps Γ Q) : jSA Γ Q 76 (o_ic (1)) 1 := so_iconst E.2.2.1 rfl dX7_steps_76
theorem oo_X7_steps_77 {Γ : jΓ} {Q : jPost} (E : E_X7_steps Γ Q) : jSA Γ Q 77 (o_iadd) 1 := so_iadd E.2.2.1 dX7_steps_77
theorem oo_X7_steps_78 {Γ : jΓ} {Q : jPost} (E : E_X7_steps Γ Q) : jSA Γ Q 78 (o_iast) 1 := so_iast E.2.2.1 dX7_steps_78
theorem oo_X7_steps_79 {Γ : jΓ} {Q : jPost} (E : E_X7_steps Γ Q) : jSA Γ Q 79 (o_aload 0) 1 := so_aload_n E.2.2.1 rfl dX7_steps_79
theorem oo_X7_steps_80 {Γ : jΓ} {Q : jPost} (E : E_X7_steps Γ Q) : jSA Γ Q 80 (o_getf 7 22) 3 := so_getf (ci := 7) E.2.2.1 wi_X7_steps_X7 (by rw [E.2.1]; rfl) 22 (by decide) wl_X7_steps_54 dX7_steps_80
theorem oo_X7_steps_83 {Γ : jΓ} {Q : jPost} (E : E_X7_steps Γ Q) : jSA Γ Q 83 (o_aload 0) 1 := so_aload_n E.2.2.1 rfl dX7_steps_83
theorem oo_X7_steps_84 {Γ : jΓ} {Q : jPost} (E : E_X7_steps Γ Q) : jSA Γ Q 84 (o_getf 7 13) 3 := so_getf (ci := 7) E.2.2.1 wi_X7_steps_X7 (by rw [E.2.1]; rfl) 13 (by decide) wl_X7_steps_39 dX7_steps_84
theorem oo_X7_steps_87 {Γ : jΓ} {Q : jPost} (E : E_X7_steps Γ Q) : jSA Γ Q 87 (o_iload 2) 1 := so_iload_n E.2.2.1 rfl dX7_steps_87
theorem oo_X7_steps_88 {Γ : jΓ} {Q : jPost} (E : E_X7_steps Γ Q) : jSA Γ Q 88 (o_iald) 1 := so_iald E.2.2.1 dX7_steps_88
theorem oo_X7_steps_89 {Γ : jΓ} {Q : jPost} (E : E_X7_steps Γ Q) : jSA Γ Q 89 (o_ic (1)) 1 := so_iconst E.2.2.1 rfl dX7_steps_89
theorem oo_X7_steps_90 {Γ : jΓ} {Q : jPost} (E : E_X7_steps Γ Q) : jSA Γ Q 90 (o_zast) 1 := so_zast E.2.2.1 dX7_steps_90
theorem oo_X7_steps_91 {Γ : jΓ} {Q : jPost} (E : E_X7_steps Γ Q) : jSA Γ Q 91 (o_iinc 2 (1)) 3 := so_iinc E.2.2.1 rfl (by rw [E.1]; decide) dX7_steps_91
theorem oo_X7_steps_94 {Γ : jΓ} {Q : jPost} (E : E_X7_steps Γ Q) : jSA Γ Q 94 (o_goto 56) 3 := so_goto E.2.2.1 (by decide) dX7_steps_94
theorem oo_X7_steps_97 {Γ : jΓ} {Q : jPost} (E : E_X7_steps Γ Q) : jSA Γ Q 97 (o_aload 0) 1 := so_aload_n E.2.2.1 rfl dX7_steps_97
theorem oo_X7_steps_98 {Γ : jΓ} {Q : jPost} (E : E_X7_steps Γ Q) : jSA Γ Q 98 (o_dup) 1 := so_dup E.2.2.1 dX7_steps_98
theorem oo_X7_steps_99 {Γ : jΓ} {Q : jPost} (E : E_X7_steps Γ Q) : jSA Γ Q 99 (o_getf 7 4) 3 := so_getf (ci := 7) E.2.2.1 wi_X7_steps_X7 (by rw [E.2.1]; rfl) 4 (by decide) wl_X7_steps_91 dX7_steps_99
theorem oo_X7_steps_102 {Γ : jΓ} {Q : jPost} (E : E_X7_steps Γ Q) : jSA Γ Q 102 (o_ic (1)) 1 := so_iconst E.2.2.1 rfl dX7_steps_102
theorem oo_X7_steps_103 {Γ : jΓ} {Q : jPost} (E : E_X7_steps Γ Q) : jSA Γ Q 103 (o_iadd) 1 := so_iadd E.2.2.1 dX7_steps_103
theorem oo_X7_steps_104 {Γ : jΓ} {Q : jPost} (E : E_X7_steps Γ Q) : jSA Γ Q 104 (o_putf 7 4) 3 := so_putf (ci := 7) E.2.2.1 tyX7 tyX7_ok nmX7 wi_X7_steps_X7 (by rw [E.2.1]; rfl) 4 (by decide) wl_X7_steps_91 rfl (by decide +kernel) dX7_steps_104
theorem oo_X7_steps_107 {Γ : jΓ} {Q : jPost} (E : E_X7_steps Γ Q) : jSA Γ Q 107 (o_aload 0) 1 := so_aload_n E.2.2.1 rfl dX7_steps_107
theorem oo_X7_steps_108 {Γ : jΓ} {Q : jPost} (E : E_X7_steps Γ Q) : jSA Γ Q 108 (o_callV 1 7 T_X7_meet) 3 := so_callV E.2.2.1 (ci := 7) (by rw [E.2.1]; rfl) gX7_steps_X7_meet (by decide +kernel) rfl (by rw [E.2.1]; exact m_X7_meet _) (by decide) (by decide) dX7_steps_108
theorem oo_X7_steps_111 {Γ : jΓ} {Q : jPost} (E : E_X7_steps Γ Q) : jSA Γ Q 111 (o_ic (1)) 1 := so_iconst E.2.2.1 rfl dX7_steps_111
theorem oo_X7_steps_112 {Γ : jΓ} {Q : jPost} (E : E_X7_steps Γ Q) : jSA Γ Q 112 (o_iretz) 1 := so_iretz E.2.2.1 E.2.2.2 dX7_steps_112
theorem ok_X7_steps_0 {Γ : jΓ} {Q : jPost} (E : E_X7_steps Γ Q) : jSS Γ Q 0 sg_X7_steps_0 := ⟨oo_X7_steps_0 E, oo_X7_steps_1 E, trivial⟩
theorem ok_X7_steps_2 {Γ : jΓ} {Q : jPost} (E : E_X7_steps Γ Q) : jSS Γ Q 2 sg_X7_steps_2 := ⟨oo_X7_steps_2 E, oo_X7_steps_3 E, oo_X7_steps_4 E, oo_X7_steps_7 E, oo_X7_steps_10 E, oo_X7_steps_11 E, oo_X7_steps_12 E, oo_X7_steps_15 E, oo_X7_steps_18 E, oo_X7_steps_21 E, trivial⟩
theorem ok_X7_steps_24 {Γ : jΓ} {Q : jPost} (E : E_X7_steps Γ Q) : jSS Γ Q 24 sg_X7_steps_24 := ⟨oo_X7_steps_24 E, oo_X7_steps_25 E, oo_X7_steps_26 E, oo_X7_steps_29 E, oo_X7_steps_32 E, oo_X7_steps_33 E, oo_X7_steps_34 E, oo_X7_steps_35 E, trivial⟩
theorem ok_X7_steps_36 {Γ : jΓ} {Q : jPost} (E : E_X7_steps Γ Q) : jSS Γ Q 36 sg_X7_steps_36 := ⟨oo_X7_steps_36 E, oo_X7_steps_37 E, oo_X7_steps_40 E, oo_X7_steps_41 E, oo_X7_steps_42 E, oo_X7_steps_45 E, trivial⟩
theorem ok_X7_steps_46 {Γ : jΓ} {Q : jPost} (E : E_X7_steps Γ Q) : jSS Γ Q 46 sg_X7_steps_46 := ⟨oo_X7_steps_46 E, oo_X7_steps_49 E, trivial⟩
theorem ok_X7_steps_52 {Γ : jΓ} {Q : jPost} (E : E_X7_steps Γ Q) : jSS Γ Q 52 sg_X7_steps_52 := ⟨oo_X7_steps_52 E, oo_X7_steps_53 E, trivial⟩
theorem ok_X7_steps_54 {Γ : jΓ} {Q : jPost} (E : E_X7_steps Γ Q) : jSS Γ Q 54 sg_X7_steps_54 := ⟨oo_X7_steps_54 E, oo_X7_steps_55 E, trivial⟩
theorem ok_X7_steps_56 {Γ : jΓ} {Q : jPost} (E : E_X7_steps Γ Q) : jSS Γ Q 56 sg_X7_steps_56 := ⟨oo_X7_steps_56 E, oo_X7_steps_57 E, oo_X7_steps_58 E, oo_X7_steps_61 E, oo_X7_steps_64 E, oo_X7_steps_65 E, oo_X7_steps_68 E, oo_X7_steps_69 E, oo_X7_steps_72 E, oo_X7_steps_73 E, oo_X7_steps_74 E, oo_X7_steps_75 E, oo_X7_steps_76 E, oo_X7_steps_77 E, oo_X7_steps_78 E, oo_X7_steps_79 E, oo_X7_steps_80 E, oo_X7_steps_83 E, oo_X7_steps_84 E, oo_X7_steps_87 E, oo_X7_steps_88 E, oo_X7_steps_89 E, oo_X7_steps_90 E, oo_X7_steps_91 E, oo_X7_steps_94 E, trivial⟩
theorem ok_X7_steps_97 {Γ : jΓ} {Q : jPost} (E : E_X7_steps Γ Q) : jSS Γ Q 97 sg_X7_steps_97 := ⟨oo_X7_steps_97 E, oo_X7_steps_98 E, oo_X7_steps_99 E, oo_X7_steps_102 E, oo_X7_steps_103 E, oo_X7_steps_104 E, oo_X7_steps_107 E, oo_X7_steps_108 E, oo_X7_steps_111 E, oo_X7_steps_112 E, trivial⟩
theorem okc_X7_steps {Γ : jΓ} {Q : jPost} (E : E_X7_steps Γ Q) (t : Nat) : jSS Γ Q t (cd_X7_steps t) := by
  unfold cd_X7_steps
  split
  · exact ok_X7_steps_24 E
  · exact ok_X7_steps_52 E
  · exact ok_X7_steps_54 E
  · exact ok_X7_steps_97 E
  · trivial
theorem m_X7_steps_of (l : Launch) (hv : ∀ (G : jGt) (Q : jPost) (vs : List Value) (K : List jK) (h : jM), jHd cd_X7_steps G Q sg_X7_steps_0 0 → jHd cd_X7_steps G Q sg_X7_steps_2 2 → jHd cd_X7_steps G Q sg_X7_steps_36 36 → jHd cd_X7_steps G Q sg_X7_steps_46 46 → jHd cd_X7_steps G Q sg_X7_steps_56 56 → T_X7_steps vs K h Q → (lg_sl vs).length ≤ 4 ∧ G 0 (jinit vs 4) [] K h 0 0) : jHolds vwCl l yX7_steps wsX7_steps 3 69 0 0 T_X7_steps := by
  refine jMet (cc := cX7_steps) (maxL := 4) (rt := (some .boolean)) (by decide +kernel) rfl (fun Γ Q vs K h hl hn hcl C hR hT => hv (jG Γ) Q vs K h ?_ ?_ ?_ ?_ ?_ hT)
  · exact fun n L st K h ce sl => jwp_ok (okc_X7_steps ⟨hn, hcl, C, hR⟩) n sg_X7_steps_0 0 (ok_X7_steps_0 ⟨hn, hcl, C, hR⟩) L st K h ce sl
  · exact fun n L st K h ce sl => jwp_ok (okc_X7_steps ⟨hn, hcl, C, hR⟩) n sg_X7_steps_2 2 (ok_X7_steps_2 ⟨hn, hcl, C, hR⟩) L st K h ce sl
  · exact fun n L st K h ce sl => jwp_ok (okc_X7_steps ⟨hn, hcl, C, hR⟩) n sg_X7_steps_36 36 (ok_X7_steps_36 ⟨hn, hcl, C, hR⟩) L st K h ce sl
  · exact fun n L st K h ce sl => jwp_ok (okc_X7_steps ⟨hn, hcl, C, hR⟩) n sg_X7_steps_46 46 (ok_X7_steps_46 ⟨hn, hcl, C, hR⟩) L st K h ce sl
  · exact fun n L st K h ce sl => jwp_ok (okc_X7_steps ⟨hn, hcl, C, hR⟩) n sg_X7_steps_56 56 (ok_X7_steps_56 ⟨hn, hcl, C, hR⟩) L st K h ce sl
set_option maxHeartbeats 4000000 in
set_option maxRecDepth 100000 in
theorem v_X7_steps {G : jGt} {Q : jPost} {K : List jK} {h : jM}  (hT : jXM K ∧ (∃ cnt : Nat, cnt ≤ 6 ∧ h 37 8 = nI cnt ∧ (0 ≤ (h 37 14).toInt ∧ (h 37 14).toInt + 6 < 2147483648) ∧ (h 37 0 = 0 ∨ h 37 0 = 1) ∧ aVal (mQ h) (mS h) cnt ∧ (aAll (mQ h) (mS h) cnt → ∀ g, mS g = aActs (mQ h) (mS h) cnt → mQ g = mQ h → frM h g → (∀ b, b < cnt → g 46 b = nI (aP (mS h) b)) → Q (some (.int 1)) K (mMt (up2 (mVs (aP (mS h)) g cnt) 37 4 (mVs (aP (mS h)) g cnt 37 4 + 1)) cnt cnt)) ∧ (¬ aAll (mQ h) (mS h) cnt → ∀ g, mS g = mS h → mQ g = mQ h → frM h g → Q (some (.int 0)) K g))) (H0 : jHd cd_X7_steps G Q sg_X7_steps_0 0) (H2 : jHd cd_X7_steps G Q sg_X7_steps_2 2) (H36 : jHd cd_X7_steps G Q sg_X7_steps_36 36) (H46 : jHd cd_X7_steps G Q sg_X7_steps_46 46) (H56 : jHd cd_X7_steps G Q sg_X7_steps_56 56) : G 0 [some (.ref 37), none, none, none] [] K h 0 0 := by
  obtain ⟨hM, cnt, hc6, hcnt, ⟨hm0, hm1⟩, hk, hv, hT1, hT0⟩ := hT
  have f37 : ∀ g, frM h g → g 37 = h 37 := fun g hf => hf 37 (by decide) (by decide) (by decide) (by decide) (by decide)
  have count : aAll (mQ h) (mS h) cnt → ∀ g, mS g = aActs (mQ h) (mS h) cnt → mQ g = mQ h → frM h g → (∀ b, b < cnt → g 46 b = nI (aP (mS h) b)) → ∀ n k, k + n = cnt → ∀ x3, G 56 [some (.ref 37), some (.int (nI cnt)), some (.int (nI k)), x3] [] K (mVs (aP (mS h)) g k) 0 0 := by
    intro hall g hS hQ hfr hbg n
    have hg37 := f37 g hfr
    induction n with
    | zero =>
      intro k hk2 x3
      have : k = cnt := by omega
      subst this
      have e8 : mVs (aP (mS h)) g k 37 8 = nI k := by rw [mVs_o _ _ _ (by decide) (by decide), hg37, hcnt]
      have d8 : up2 (mVs (aP (mS h)) g k) 37 4 (mVs (aP (mS h)) g k 37 4 + 1) 37 8 = nI k := by rw [up2_s, upd_n (by decide), e8]
      have d14 : up2 (mVs (aP (mS h)) g k) 37 4 (mVs (aP (mS h)) g k 37 4 + 1) 37 14 = h 37 14 := by rw [up2_s, upd_n (by decide), mVs_o _ _ _ (by decide) (by decide), hg37]
      have hT1 := hT1 hall g hS hQ hfr hbg
      refine H56 80 _ _ _ _ _ _ ?_
      simp only [sg_X7_steps_0, sg_X7_steps_2, sg_X7_steps_24, sg_X7_steps_36, sg_X7_steps_46, sg_X7_steps_52, sg_X7_steps_54, sg_X7_steps_56, sg_X7_steps_97, cd_X7_steps, jwp, o_ic, o_lc, o_iload, o_lload, o_aload, o_istore, o_lstore, o_astore, o_iinc, o_pop, o_dup, o_dup2, o_iadd, o_isub, o_imul, o_iand, o_ior, o_ishl, o_ladd, o_lmul, o_land, o_lor, o_idiv, o_irem, o_ineg, o_i2l, o_l2i, o_i2b, o_i2s, o_lushr, o_lshr, o_lshl, o_lcmp, o_ifeq, o_ifne, o_iflt, o_ifge, o_ifgt, o_ifle, o_iceq, o_icne, o_iclt, o_icge, o_icgt, o_icle, o_goto, o_tsw, jsw, o_lsw, jlk, o_getf, o_putf, o_putz, o_iald, o_zald, o_iast, o_zast, o_aald, o_alen, o_gets, o_zld, o_zlen, o_cpy, o_call, o_callV, o_ireti, o_iretz, o_lret, o_vret, jg, js, jkp, jkill, jsp, jcs, jfw, jov, Value.category, Option.toList_some, Option.toList_none, List.nil_append, List.cons_append, List.append_nil, Nat.reduceAdd, true_and, and_true, jb0, jb01, jb1, jem, true_or, or_true, Classical.not_not, forall_const, List.length_cons, List.length_nil, Nat.reduceLeDiff, Nat.zero_le, Nat.reduceLT, hM, km_37_0 hM, km_37_1 hM, km_37_2 hM, km_37_3 hM, km_37_4 hM, km_37_5 hM, km_37_6 hM, km_37_7 hM, km_37_8 hM, km_37_9 hM, km_37_10 hM, km_37_11 hM, km_37_12 hM, km_37_13 hM, km_37_14 hM, km_37_15 hM, km_37_16 hM, km_37_17 hM, km_37_18 hM, km_37_19 hM, km_37_20 hM, km_37_21 hM, km_37_22 hM, km_37_23 hM, km_37_24 hM, km_37_25 hM, km_37_26 hM, km_37_27 hM, km_37_28 hM, km_37_29 hM, km_37_30 hM, km_37_31 hM, km_37_32 hM, kmo_37 hM, kma_38 hM, kma_39 hM, kma_40 hM, kma_41 hM, kma_42 hM, kma_43 hM, kma_44 hM, kma_45 hM, kma_46 hM, kma_47 hM, kma_48 hM, kma_49 hM, kma_50 hM, kma_52 hM, kma_53 hM, kma_54 hM, kma_55 hM, kma_56 hM, kma_51 hM, T_X7_meet]
      rw [e8]
      exact ⟨fun _ => ⟨k, hc6, d8, ⟨by rw [d14]; exact hm0, by rw [d14]; exact hm1⟩, hT1⟩, fun q => absurd (Int32.le_refl _) q⟩
    | succ n ih =>
      intro k hk2 x3
      have e8 : mVs (aP (mS h)) g k 37 8 = nI cnt := by rw [mVs_o _ _ _ (by decide) (by decide), hg37, hcnt]
      have e46 : mVs (aP (mS h)) g k 46 k = nI (aP (mS h) k) := by rw [mVs_o _ _ _ (by decide) (by decide), hbg k (by omega)]
      have hP := aP_lt (hv.2 k (by omega))
      have vk : vp_in (nI k) 6 := vp_in_nI (by omega) (by decide)
      have vP : vp_in (nI (aP (mS h) k)) 57600 := vp_in_nI hP (by decide)
      have h2 := ih (k + 1) (by omega) x3
      rw [mVs_s] at h2
      generalize mVs (aP (mS h)) g k = gk at e8 e46 h2 ⊢
      generalize aP (mS h) k = pk at hP e46 vP h2 ⊢
      refine H56 80 _ _ _ _ _ _ ?_
      simp only [sg_X7_steps_0, sg_X7_steps_2, sg_X7_steps_24, sg_X7_steps_36, sg_X7_steps_46, sg_X7_steps_52, sg_X7_steps_54, sg_X7_steps_56, sg_X7_steps_97, cd_X7_steps, jwp, o_ic, o_lc, o_iload, o_lload, o_aload, o_istore, o_lstore, o_astore, o_iinc, o_pop, o_dup, o_dup2, o_iadd, o_isub, o_imul, o_iand, o_ior, o_ishl, o_ladd, o_lmul, o_land, o_lor, o_idiv, o_irem, o_ineg, o_i2l, o_l2i, o_i2b, o_i2s, o_lushr, o_lshr, o_lshl, o_lcmp, o_ifeq, o_ifne, o_iflt, o_ifge, o_ifgt, o_ifle, o_iceq, o_icne, o_iclt, o_icge, o_icgt, o_icle, o_goto, o_tsw, jsw, o_lsw, jlk, o_getf, o_putf, o_putz, o_iald, o_zald, o_iast, o_zast, o_aald, o_alen, o_gets, o_zld, o_zlen, o_cpy, o_call, o_callV, o_ireti, o_iretz, o_lret, o_vret, jg, js, jkp, jkill, jsp, jcs, jfw, jov, Value.category, Option.toList_some, Option.toList_none, List.nil_append, List.cons_append, List.append_nil, Nat.reduceAdd, true_and, and_true, jb0, jb01, jb1, jem, true_or, or_true, Classical.not_not, forall_const, List.length_cons, List.length_nil, Nat.reduceLeDiff, Nat.zero_le, Nat.reduceLT, and_self, not_true_eq_false, not_false_eq_true, false_imp_iff, true_imp_iff, implies_true, and_false, false_and, or_false, false_or, hM, km_37_0 hM, km_37_1 hM, km_37_2 hM, km_37_3 hM, km_37_4 hM, km_37_5 hM, km_37_6 hM, km_37_7 hM, km_37_8 hM, km_37_9 hM, km_37_10 hM, km_37_11 hM, km_37_12 hM, km_37_13 hM, km_37_14 hM, km_37_15 hM, km_37_16 hM, km_37_17 hM, km_37_18 hM, km_37_19 hM, km_37_20 hM, km_37_21 hM, km_37_22 hM, km_37_23 hM, km_37_24 hM, km_37_25 hM, km_37_26 hM, km_37_27 hM, km_37_28 hM, km_37_29 hM, km_37_30 hM, km_37_31 hM, km_37_32 hM, kmo_37 hM, kma_38 hM, kma_39 hM, kma_40 hM, kma_41 hM, kma_42 hM, kma_43 hM, kma_44 hM, kma_45 hM, kma_46 hM, kma_47 hM, kma_48 hM, kma_49 hM, kma_50 hM, kma_52 hM, kma_53 hM, kma_54 hM, kma_55 hM, kma_56 hM, kma_51 hM, vk, nI_clamp (show k < 2147483648 by omega), e46, up2_n (show ¬ 46 = 39 by decide), vP, nI_clamp (show pk < 2147483648 by omega)]
      rw [e8]
      refine ⟨fun q => absurd ((nI_leI (by omega) (by omega)).mp q) (by omega), fun _ => ?_⟩
      rw [nI_1]
      exact h2
  have h46 : ∀ (i w b : Int32) (g : jM), G 36 [some (.ref 37), some (.int i), some (.int (w + -1)), some (.int b)] [] K g 0 0 → G 46 [some (.ref 37), some (.int i), some (.int w), some (.int b)] [] K g 0 0 := by
    intro i w b g hG
    refine H46 60 _ _ _ _ _ _ ?_
    simp only [sg_X7_steps_0, sg_X7_steps_2, sg_X7_steps_24, sg_X7_steps_36, sg_X7_steps_46, sg_X7_steps_52, sg_X7_steps_54, sg_X7_steps_56, sg_X7_steps_97, cd_X7_steps, jwp, o_ic, o_lc, o_iload, o_lload, o_aload, o_istore, o_lstore, o_astore, o_iinc, o_pop, o_dup, o_dup2, o_iadd, o_isub, o_imul, o_iand, o_ior, o_ishl, o_ladd, o_lmul, o_land, o_lor, o_idiv, o_irem, o_ineg, o_i2l, o_l2i, o_i2b, o_i2s, o_lushr, o_lshr, o_lshl, o_lcmp, o_ifeq, o_ifne, o_iflt, o_ifge, o_ifgt, o_ifle, o_iceq, o_icne, o_iclt, o_icge, o_icgt, o_icle, o_goto, o_tsw, jsw, o_lsw, jlk, o_getf, o_putf, o_putz, o_iald, o_zald, o_iast, o_zast, o_aald, o_alen, o_gets, o_zld, o_zlen, o_cpy, o_call, o_callV, o_ireti, o_iretz, o_lret, o_vret, jg, js, jkp, jkill, jsp, jcs, jfw, jov, Value.category, Option.toList_some, Option.toList_none, List.nil_append, List.cons_append, List.append_nil, Nat.reduceAdd, true_and, and_true, jb0, jb01, jb1, jem, true_or, or_true, Classical.not_not, forall_const, List.length_cons, List.length_nil, Nat.reduceLeDiff, Nat.zero_le, Nat.reduceLT, hM, km_37_0 hM, km_37_1 hM, km_37_2 hM, km_37_3 hM, km_37_4 hM, km_37_5 hM, km_37_6 hM, km_37_7 hM, km_37_8 hM, km_37_9 hM, km_37_10 hM, km_37_11 hM, km_37_12 hM, km_37_13 hM, km_37_14 hM, km_37_15 hM, km_37_16 hM, km_37_17 hM, km_37_18 hM, km_37_19 hM, km_37_20 hM, km_37_21 hM, km_37_22 hM, km_37_23 hM, km_37_24 hM, km_37_25 hM, km_37_26 hM, km_37_27 hM, km_37_28 hM, km_37_29 hM, km_37_30 hM, km_37_31 hM, km_37_32 hM, kmo_37 hM, kma_38 hM, kma_39 hM, kma_40 hM, kma_41 hM, kma_42 hM, kma_43 hM, kma_44 hM, kma_45 hM, kma_46 hM, kma_47 hM, kma_48 hM, kma_49 hM, kma_50 hM, kma_52 hM, kma_53 hM, kma_54 hM, kma_55 hM, kma_56 hM, kma_51 hM]
    exact hG
  have undo : ∀ i k, k ≤ i → i ≤ cnt → aAll (mQ h) (mS h) i → ¬ aAll (mQ h) (mS h) cnt → ∀ g x3, mS g = aActs (mQ h) (mS h) k → mQ g = mQ h → frM h g → G 36 [some (.ref 37), some (.int (nI i)), some (.int (nI k + -1)), x3] [] K g 0 0 := by
    intro i k
    induction k with
    | zero =>
      intro hki hic hall hno g x3 hS hQ hfr
      have hT0 := hT0 hno g hS hQ hfr
      refine H36 80 _ _ _ _ _ _ ?_
      simp only [sg_X7_steps_0, sg_X7_steps_2, sg_X7_steps_24, sg_X7_steps_36, sg_X7_steps_46, sg_X7_steps_52, sg_X7_steps_54, sg_X7_steps_56, sg_X7_steps_97, cd_X7_steps, jwp, o_ic, o_lc, o_iload, o_lload, o_aload, o_istore, o_lstore, o_astore, o_iinc, o_pop, o_dup, o_dup2, o_iadd, o_isub, o_imul, o_iand, o_ior, o_ishl, o_ladd, o_lmul, o_land, o_lor, o_idiv, o_irem, o_ineg, o_i2l, o_l2i, o_i2b, o_i2s, o_lushr, o_lshr, o_lshl, o_lcmp, o_ifeq, o_ifne, o_iflt, o_ifge, o_ifgt, o_ifle, o_iceq, o_icne, o_iclt, o_icge, o_icgt, o_icle, o_goto, o_tsw, jsw, o_lsw, jlk, o_getf, o_putf, o_putz, o_iald, o_zald, o_iast, o_zast, o_aald, o_alen, o_gets, o_zld, o_zlen, o_cpy, o_call, o_callV, o_ireti, o_iretz, o_lret, o_vret, jg, js, jkp, jkill, jsp, jcs, jfw, jov, Value.category, Option.toList_some, Option.toList_none, List.nil_append, List.cons_append, List.append_nil, Nat.reduceAdd, true_and, and_true, jb0, jb01, jb1, jem, true_or, or_true, Classical.not_not, forall_const, List.length_cons, List.length_nil, Nat.reduceLeDiff, Nat.zero_le, Nat.reduceLT, hM, km_37_0 hM, km_37_1 hM, km_37_2 hM, km_37_3 hM, km_37_4 hM, km_37_5 hM, km_37_6 hM, km_37_7 hM, km_37_8 hM, km_37_9 hM, km_37_10 hM, km_37_11 hM, km_37_12 hM, km_37_13 hM, km_37_14 hM, km_37_15 hM, km_37_16 hM, km_37_17 hM, km_37_18 hM, km_37_19 hM, km_37_20 hM, km_37_21 hM, km_37_22 hM, km_37_23 hM, km_37_24 hM, km_37_25 hM, km_37_26 hM, km_37_27 hM, km_37_28 hM, km_37_29 hM, km_37_30 hM, km_37_31 hM, km_37_32 hM, kmo_37 hM, kma_38 hM, kma_39 hM, kma_40 hM, kma_41 hM, kma_42 hM, kma_43 hM, kma_44 hM, kma_45 hM, kma_46 hM, kma_47 hM, kma_48 hM, kma_49 hM, kma_50 hM, kma_52 hM, kma_53 hM, kma_54 hM, kma_55 hM, kma_56 hM, kma_51 hM, T_X7_actsBack]
      rw [nI_neg1]
      exact ⟨fun _ => hT0, fun q => absurd (by decide) q⟩
    | succ k ih =>
      intro hki hic hall hno g x3 hS hQ hfr
      have hk6 : k < 6 := by omega
      have hvk := aVal_acts hv k (by omega) (fun j hj => hall j (by omega))
      have hvk1 := aVal_acts hv (k + 1) (by omega) (fun j hj => hall j (by omega))
      have hvg : aVal (mQ g) (mS g) cnt := by rw [hQ, hS]; exact hvk1
      obtain ⟨b1, b2, b3⟩ := aBack_act hvk.1 (hvk.2 k (by omega)) (hall k (by omega))
      have hS' : mS g = aAct (mQ h) (aActs (mQ h) (mS h) k) k := hS
      have hb : aBOK (mQ g) (mS g) k := by rw [hQ, hS']; exact b1
      have hk31 : k < 2147483648 := by omega
      have kg : g 37 0 = 0 ∨ g 37 0 = 1 := by rw [f37 g hfr]; exact hk
      rw [nI_m1]
      refine H36 80 _ _ _ _ _ _ ?_
      simp only [sg_X7_steps_0, sg_X7_steps_2, sg_X7_steps_24, sg_X7_steps_36, sg_X7_steps_46, sg_X7_steps_52, sg_X7_steps_54, sg_X7_steps_56, sg_X7_steps_97, cd_X7_steps, jwp, o_ic, o_lc, o_iload, o_lload, o_aload, o_istore, o_lstore, o_astore, o_iinc, o_pop, o_dup, o_dup2, o_iadd, o_isub, o_imul, o_iand, o_ior, o_ishl, o_ladd, o_lmul, o_land, o_lor, o_idiv, o_irem, o_ineg, o_i2l, o_l2i, o_i2b, o_i2s, o_lushr, o_lshr, o_lshl, o_lcmp, o_ifeq, o_ifne, o_iflt, o_ifge, o_ifgt, o_ifle, o_iceq, o_icne, o_iclt, o_icge, o_icgt, o_icle, o_goto, o_tsw, jsw, o_lsw, jlk, o_getf, o_putf, o_putz, o_iald, o_zald, o_iast, o_zast, o_aald, o_alen, o_gets, o_zld, o_zlen, o_cpy, o_call, o_callV, o_ireti, o_iretz, o_lret, o_vret, jg, js, jkp, jkill, jsp, jcs, jfw, jov, Value.category, Option.toList_some, Option.toList_none, List.nil_append, List.cons_append, List.append_nil, Nat.reduceAdd, true_and, and_true, jb0, jb01, jb1, jem, true_or, or_true, Classical.not_not, forall_const, List.length_cons, List.length_nil, Nat.reduceLeDiff, Nat.zero_le, Nat.reduceLT, hM, km_37_0 hM, km_37_1 hM, km_37_2 hM, km_37_3 hM, km_37_4 hM, km_37_5 hM, km_37_6 hM, km_37_7 hM, km_37_8 hM, km_37_9 hM, km_37_10 hM, km_37_11 hM, km_37_12 hM, km_37_13 hM, km_37_14 hM, km_37_15 hM, km_37_16 hM, km_37_17 hM, km_37_18 hM, km_37_19 hM, km_37_20 hM, km_37_21 hM, km_37_22 hM, km_37_23 hM, km_37_24 hM, km_37_25 hM, km_37_26 hM, km_37_27 hM, km_37_28 hM, km_37_29 hM, km_37_30 hM, km_37_31 hM, km_37_32 hM, kmo_37 hM, kma_38 hM, kma_39 hM, kma_40 hM, kma_41 hM, kma_42 hM, kma_43 hM, kma_44 hM, kma_45 hM, kma_46 hM, kma_47 hM, kma_48 hM, kma_49 hM, kma_50 hM, kma_52 hM, kma_53 hM, kma_54 hM, kma_55 hM, kma_56 hM, kma_51 hM, T_X7_actsBack]
      refine ⟨fun q => absurd q (nI_pos hk31), fun _ => ⟨k, hk6, rfl, kg, hvg.1, hvg.2 k (by omega), fun _ => ?_, fun q => absurd hb q⟩⟩
      refine h46 _ _ _ _ (ih (by omega) hic hall hno _ _ ?_ ?_ ?_)
      · rw [mS_back g hk6, hQ, hS', b3]
      · rw [mQ_back g k, hQ]
      · exact frM_tr hfr (frM_back g k)
  have loop : ∀ n i, i + n = cnt → aAll (mQ h) (mS h) i → ∀ g x2 x3, mS g = aActs (mQ h) (mS h) i → mQ g = mQ h → frM h g → (∀ b, b < i → g 46 b = nI (aP (mS h) b)) → G 2 [some (.ref 37), some (.int (nI i)), x2, x3] [] K g 0 0 := by
    intro n
    induction n with
    | zero =>
      intro i hi hall g x2 x3 hS hQ hfr hbg
      have : i = cnt := by omega
      subst this
      have e8 : g 37 8 = nI i := by rw [f37 g hfr, hcnt]
      refine H2 80 _ _ _ _ _ _ ?_
      simp only [sg_X7_steps_0, sg_X7_steps_2, sg_X7_steps_24, sg_X7_steps_36, sg_X7_steps_46, sg_X7_steps_52, sg_X7_steps_54, sg_X7_steps_56, sg_X7_steps_97, cd_X7_steps, jwp, o_ic, o_lc, o_iload, o_lload, o_aload, o_istore, o_lstore, o_astore, o_iinc, o_pop, o_dup, o_dup2, o_iadd, o_isub, o_imul, o_iand, o_ior, o_ishl, o_ladd, o_lmul, o_land, o_lor, o_idiv, o_irem, o_ineg, o_i2l, o_l2i, o_i2b, o_i2s, o_lushr, o_lshr, o_lshl, o_lcmp, o_ifeq, o_ifne, o_iflt, o_ifge, o_ifgt, o_ifle, o_iceq, o_icne, o_iclt, o_icge, o_icgt, o_icle, o_goto, o_tsw, jsw, o_lsw, jlk, o_getf, o_putf, o_putz, o_iald, o_zald, o_iast, o_zast, o_aald, o_alen, o_gets, o_zld, o_zlen, o_cpy, o_call, o_callV, o_ireti, o_iretz, o_lret, o_vret, jg, js, jkp, jkill, jsp, jcs, jfw, jov, Value.category, Option.toList_some, Option.toList_none, List.nil_append, List.cons_append, List.append_nil, Nat.reduceAdd, true_and, and_true, jb0, jb01, jb1, jem, true_or, or_true, Classical.not_not, forall_const, List.length_cons, List.length_nil, Nat.reduceLeDiff, Nat.zero_le, Nat.reduceLT, hM, km_37_0 hM, km_37_1 hM, km_37_2 hM, km_37_3 hM, km_37_4 hM, km_37_5 hM, km_37_6 hM, km_37_7 hM, km_37_8 hM, km_37_9 hM, km_37_10 hM, km_37_11 hM, km_37_12 hM, km_37_13 hM, km_37_14 hM, km_37_15 hM, km_37_16 hM, km_37_17 hM, km_37_18 hM, km_37_19 hM, km_37_20 hM, km_37_21 hM, km_37_22 hM, km_37_23 hM, km_37_24 hM, km_37_25 hM, km_37_26 hM, km_37_27 hM, km_37_28 hM, km_37_29 hM, km_37_30 hM, km_37_31 hM, km_37_32 hM, kmo_37 hM, kma_38 hM, kma_39 hM, kma_40 hM, kma_41 hM, kma_42 hM, kma_43 hM, kma_44 hM, kma_45 hM, kma_46 hM, kma_47 hM, kma_48 hM, kma_49 hM, kma_50 hM, kma_52 hM, kma_53 hM, kma_54 hM, kma_55 hM, kma_56 hM, kma_51 hM, T_X7_acts]
      rw [e8]
      refine ⟨fun _ => ⟨fun _ => count hall g hS hQ hfr hbg i 0 (by omega) x3, fun q => absurd (Int32.le_refl _) q⟩, fun q => absurd (Int32.le_refl _) q⟩
    | succ n ih =>
      intro i hi hall g x2 x3 hS hQ hfr hbg
      have e8 : g 37 8 = nI cnt := by rw [f37 g hfr, hcnt]
      have hi6 : i < 6 := by omega
      have hvk := aVal_acts hv i (by omega) hall
      have hvg : aVal (mQ g) (mS g) cnt := by rw [hQ, hS]; exact hvk
      have kg : g 37 0 = 0 ∨ g 37 0 = 1 := by rw [f37 g hfr]; exact hk
      have hnle : ¬ nI cnt ≤ nI i := fun q => absurd ((nI_leI (by omega) (by omega)).mp q) (by omega)
      refine H2 80 _ _ _ _ _ _ ?_
      simp only [sg_X7_steps_0, sg_X7_steps_2, sg_X7_steps_24, sg_X7_steps_36, sg_X7_steps_46, sg_X7_steps_52, sg_X7_steps_54, sg_X7_steps_56, sg_X7_steps_97, cd_X7_steps, jwp, o_ic, o_lc, o_iload, o_lload, o_aload, o_istore, o_lstore, o_astore, o_iinc, o_pop, o_dup, o_dup2, o_iadd, o_isub, o_imul, o_iand, o_ior, o_ishl, o_ladd, o_lmul, o_land, o_lor, o_idiv, o_irem, o_ineg, o_i2l, o_l2i, o_i2b, o_i2s, o_lushr, o_lshr, o_lshl, o_lcmp, o_ifeq, o_ifne, o_iflt, o_ifge, o_ifgt, o_ifle, o_iceq, o_icne, o_iclt, o_icge, o_icgt, o_icle, o_goto, o_tsw, jsw, o_lsw, jlk, o_getf, o_putf, o_putz, o_iald, o_zald, o_iast, o_zast, o_aald, o_alen, o_gets, o_zld, o_zlen, o_cpy, o_call, o_callV, o_ireti, o_iretz, o_lret, o_vret, jg, js, jkp, jkill, jsp, jcs, jfw, jov, Value.category, Option.toList_some, Option.toList_none, List.nil_append, List.cons_append, List.append_nil, Nat.reduceAdd, true_and, and_true, jb0, jb01, jb1, jem, true_or, or_true, Classical.not_not, forall_const, List.length_cons, List.length_nil, Nat.reduceLeDiff, Nat.zero_le, Nat.reduceLT, and_self, not_true_eq_false, not_false_eq_true, false_imp_iff, true_imp_iff, implies_true, and_false, false_and, or_false, false_or, hM, km_37_0 hM, km_37_1 hM, km_37_2 hM, km_37_3 hM, km_37_4 hM, km_37_5 hM, km_37_6 hM, km_37_7 hM, km_37_8 hM, km_37_9 hM, km_37_10 hM, km_37_11 hM, km_37_12 hM, km_37_13 hM, km_37_14 hM, km_37_15 hM, km_37_16 hM, km_37_17 hM, km_37_18 hM, km_37_19 hM, km_37_20 hM, km_37_21 hM, km_37_22 hM, km_37_23 hM, km_37_24 hM, km_37_25 hM, km_37_26 hM, km_37_27 hM, km_37_28 hM, km_37_29 hM, km_37_30 hM, km_37_31 hM, km_37_32 hM, kmo_37 hM, kma_38 hM, kma_39 hM, kma_40 hM, kma_41 hM, kma_42 hM, kma_43 hM, kma_44 hM, kma_45 hM, kma_46 hM, kma_47 hM, kma_48 hM, kma_49 hM, kma_50 hM, kma_52 hM, kma_53 hM, kma_54 hM, kma_55 hM, kma_56 hM, kma_51 hM, T_X7_acts, e8, hnle]
      refine ⟨i, hi6, rfl, kg, hvg.1, hvg.2 i (by omega), fun q => ?_, fun q => ?_⟩
      · rw [hQ, hS] at q
        refine ⟨fun z => absurd z (by decide), fun _ => ?_⟩
        rw [nI_1]
        refine ih (i + 1) (by omega) (fun j hj => ?_) _ _ _ ?_ ?_ ?_ ?_
        · by_cases e : j = i
          · rw [e]; exact q
          · exact hall j (by omega)
        · rw [mS_act g hi6, hQ, hS]; rfl
        · rw [mQ_act g i, hQ]
        · exact frM_tr hfr (frM_act g i)
        · intro b hb
          rw [mAct_46]
          by_cases e : b = i
          · subst e; rw [upd_s, hS, aP_acts]
          · rw [upd_n e]; exact hbg b (by omega)
      · have hno : ¬ aAll (mQ h) (mS h) cnt := fun z => q (by rw [hQ, hS]; exact z i (by omega))
        rw [Int32.sub_eq_add_neg]
        exact undo i i (Nat.le_refl i) (by omega) hall hno g x3 hS hQ hfr
  refine H0 80 _ _ _ _ _ _ ?_
  simp only [sg_X7_steps_0, sg_X7_steps_2, sg_X7_steps_24, sg_X7_steps_36, sg_X7_steps_46, sg_X7_steps_52, sg_X7_steps_54, sg_X7_steps_56, sg_X7_steps_97, cd_X7_steps, jwp, o_ic, o_lc, o_iload, o_lload, o_aload, o_istore, o_lstore, o_astore, o_iinc, o_pop, o_dup, o_dup2, o_iadd, o_isub, o_imul, o_iand, o_ior, o_ishl, o_ladd, o_lmul, o_land, o_lor, o_idiv, o_irem, o_ineg, o_i2l, o_l2i, o_i2b, o_i2s, o_lushr, o_lshr, o_lshl, o_lcmp, o_ifeq, o_ifne, o_iflt, o_ifge, o_ifgt, o_ifle, o_iceq, o_icne, o_iclt, o_icge, o_icgt, o_icle, o_goto, o_tsw, jsw, o_lsw, jlk, o_getf, o_putf, o_putz, o_iald, o_zald, o_iast, o_zast, o_aald, o_alen, o_gets, o_zld, o_zlen, o_cpy, o_call, o_callV, o_ireti, o_iretz, o_lret, o_vret, jg, js, jkp, jkill, jsp, jcs, jfw, jov, Value.category, Option.toList_some, Option.toList_none, List.nil_append, List.cons_append, List.append_nil, Nat.reduceAdd, true_and, and_true, jb0, jb01, jb1, jem, true_or, or_true, Classical.not_not, forall_const, List.length_cons, List.length_nil, Nat.reduceLeDiff, Nat.zero_le, Nat.reduceLT, hM, km_37_0 hM, km_37_1 hM, km_37_2 hM, km_37_3 hM, km_37_4 hM, km_37_5 hM, km_37_6 hM, km_37_7 hM, km_37_8 hM, km_37_9 hM, km_37_10 hM, km_37_11 hM, km_37_12 hM, km_37_13 hM, km_37_14 hM, km_37_15 hM, km_37_16 hM, km_37_17 hM, km_37_18 hM, km_37_19 hM, km_37_20 hM, km_37_21 hM, km_37_22 hM, km_37_23 hM, km_37_24 hM, km_37_25 hM, km_37_26 hM, km_37_27 hM, km_37_28 hM, km_37_29 hM, km_37_30 hM, km_37_31 hM, km_37_32 hM, kmo_37 hM, kma_38 hM, kma_39 hM, kma_40 hM, kma_41 hM, kma_42 hM, kma_43 hM, kma_44 hM, kma_45 hM, kma_46 hM, kma_47 hM, kma_48 hM, kma_49 hM, kma_50 hM, kma_52 hM, kma_53 hM, kma_54 hM, kma_55 hM, kma_56 hM, kma_51 hM]
  exact loop cnt 0 (by omega) (fun j hj => by omega) h none none rfl rfl (frM_rf h) (fun b hb => by omega)
theorem m_X7_steps (l : Launch) : jHolds vwCl l yX7_steps wsX7_steps 3 69 0 0 T_X7_steps := by
  refine m_X7_steps_of l (fun G Q vs K h H0 H2 H36 H46 H56 hT => ?_)
  unfold T_X7_steps at hT
  split at hT
  · obtain ⟨rfl, hT⟩ := hT
    exact ⟨Nat.le_of_ble_eq_true rfl, v_X7_steps hT H0 H2 H36 H46 H56⟩
  · exact hT.elim
