/-! ===== lays ===== -/

def T_L_lays (LL : Nat) (xs : Nat → Int32) : jT := fun vs K h Q => match vs with
  | [.ref r0, .ref r1] => r0 = 0 ∧ r1 = 2000 ∧ jX K ∧ (0 ≤ (h 4 2).toInt ∧ (h 4 2).toInt ≤ 12) ∧ Q (some (.int (nI (lyN LL xs)))) K (lyM LL xs h)
  | _ => False

def sg_L_lays_0 (LL : Nat) (xs : Nat → Int32) : jS := [(o_aload 1, 1), (o_ic (0), 1), (o_call 2 (T_L_cell LL xs), 3), (o_ic (1), 1), (o_iand, 1), (o_istore 2, 1), (o_ic (2), 1), (o_aload 1, 1), (o_ic (1), 1), (o_call 2 (T_L_cell LL xs), 3), (o_ic (11), 2), (o_irem, 1), (o_iadd, 1), (o_istore 3, 1), (o_aload 0, 1), (o_iload 2, 1), (o_iload 3, 1)]
def sg_L_lays_22 (LL : Nat) (xs : Nat → Int32) : jS := [(o_callV 3 6 T_X6_floor, 3)]
def sg_L_lays_25 (LL : Nat) (xs : Nat → Int32) : jS := [(o_istore 4, 2), (o_ic (0), 1), (o_istore 5, 2)]
def sg_L_lays_30 (LL : Nat) (xs : Nat → Int32) : jS := [(o_iload 5, 2), (o_ic (4), 1), (o_icge 173, 3), (o_ic (0), 1), (o_istore 6, 2)]
def sg_L_lays_39 (LL : Nat) (xs : Nat → Int32) : jS := [(o_iload 6, 2), (o_iload 3, 1), (o_icge 159, 3), (o_aload 1, 1), (o_ic (2), 1), (o_iload 5, 2), (o_ic (3), 1), (o_imul, 1), (o_iadd, 1), (o_iload 6, 2), (o_iadd, 1), (o_call 2 (T_L_cell LL xs), 3), (o_iload 6, 2), (o_ishr, 1), (o_istore 7, 2)]
def sg_L_lays_63 (LL : Nat) (xs : Nat → Int32) : jS := [(o_iload 7, 2), (o_ic (4), 1), (o_irem, 1), (o_ifne 75, 3), (o_ic (78), 2), (o_goto 141, 3)]
def sg_L_lays_75 (LL : Nat) (xs : Nat → Int32) : jS := [(o_iload 7, 2), (o_ic (4), 1), (o_irem, 1), (o_ic (1), 1), (o_icne 88, 3), (o_ic (82), 2), (o_goto 141, 3)]
def sg_L_lays_88 (LL : Nat) (xs : Nat → Int32) : jS := [(o_iload 7, 2), (o_ic (4), 1), (o_irem, 1), (o_ic (2), 1), (o_icne 101, 3), (o_ic (76), 2), (o_goto 141, 3)]
def sg_L_lays_101 (LL : Nat) (xs : Nat → Int32) : jS := [(o_iload 7, 2), (o_ic (8), 2), (o_irem, 1), (o_ic (3), 1), (o_icne 115, 3), (o_ic (85), 2), (o_goto 141, 3)]
def sg_L_lays_115 (LL : Nat) (xs : Nat → Int32) : jS := [(o_iload 2, 1), (o_ifne 124, 3), (o_ic (82), 2), (o_goto 141, 3)]
def sg_L_lays_124 (LL : Nat) (xs : Nat → Int32) : jS := [(o_iload 7, 2), (o_ic (16), 2), (o_irem, 1), (o_ic (7), 2), (o_icne 139, 3), (o_ic (83), 2), (o_goto 141, 3)]
def sg_L_lays_139 (LL : Nat) (xs : Nat → Int32) : jS := [(o_ic (77), 2)]
def sg_L_lays_141 (LL : Nat) (xs : Nat → Int32) : jS := [(o_istore 8, 2), (o_aload 0, 1), (o_iload 8, 2), (o_i2l, 1), (o_ic (1), 1)]
def sg_L_lays_148 (LL : Nat) (xs : Nat → Int32) : jS := [(o_callV 3 6 T_X6_type, 3)]
def sg_L_lays_151 (LL : Nat) (xs : Nat → Int32) : jS := [(o_istore 9, 2), (o_iinc 6 (1), 3), (o_goto 39, 3)]
def sg_L_lays_159 (LL : Nat) (xs : Nat → Int32) : jS := [(o_aload 0, 1), (o_iload 5, 2)]
def sg_L_lays_162 (LL : Nat) (xs : Nat → Int32) : jS := [(o_callV 2 6 T_X6_rule, 3)]
def sg_L_lays_165 (LL : Nat) (xs : Nat → Int32) : jS := [(o_istore 6, 2), (o_iinc 5 (1), 3), (o_goto 30, 3)]
def sg_L_lays_173 (LL : Nat) (xs : Nat → Int32) : jS := [(o_ic (1), 1), (o_aload 1, 1), (o_ic (20), 2), (o_call 2 (T_L_cell LL xs), 3), (o_ic (4), 1), (o_irem, 1), (o_iadd, 1), (o_istore 5, 2), (o_ic (0), 1), (o_istore 6, 2)]
def sg_L_lays_188 (LL : Nat) (xs : Nat → Int32) : jS := [(o_iload 6, 2), (o_iload 5, 2), (o_icge 259, 3), (o_aload 1, 1), (o_ic (21), 2), (o_iload 6, 2), (o_iadd, 1), (o_call 2 (T_L_cell LL xs), 3), (o_istore 7, 2)]
def sg_L_lays_206 (LL : Nat) (xs : Nat → Int32) : jS := [(o_aload 0, 1), (o_iload 7, 2), (o_ic (15), 2), (o_irem, 1), (o_ic (7), 2), (o_isub, 1), (o_iload 7, 2), (o_ic (4), 1), (o_ishr, 1), (o_ic (15), 2), (o_irem, 1), (o_ic (7), 2), (o_isub, 1), (o_iload 7, 2), (o_ic (8), 2), (o_ishr, 1), (o_iload 2, 1), (o_ifne 238, 3), (o_ic (4), 1), (o_goto 240, 3)]
def sg_L_lays_238 (LL : Nat) (xs : Nat → Int32) : jS := [(o_ic (6), 2), (o_irem, 1), (o_iload 7, 2), (o_ic (12), 2), (o_ishr, 1), (o_ic (3), 1), (o_iand, 1)]
def sg_L_lays_240 (LL : Nat) (xs : Nat → Int32) : jS := [(o_irem, 1), (o_iload 7, 2), (o_ic (12), 2), (o_ishr, 1), (o_ic (3), 1), (o_iand, 1)]
def sg_L_lays_248 (LL : Nat) (xs : Nat → Int32) : jS := [(o_callV 5 6 T_X6_ant, 3)]
def sg_L_lays_251 (LL : Nat) (xs : Nat → Int32) : jS := [(o_istore 8, 2), (o_iinc 6 (1), 3), (o_goto 188, 3)]
def sg_L_lays_259 (LL : Nat) (xs : Nat → Int32) : jS := [(o_iload 3, 1), (o_ireti, 1)]
def cd_L_lays (LL : Nat) (xs : Nat → Int32) : Nat → jS := fun t => match t with
  | 75 => sg_L_lays_75 LL xs
  | 88 => sg_L_lays_88 LL xs
  | 101 => sg_L_lays_101 LL xs
  | 115 => sg_L_lays_115 LL xs
  | 124 => sg_L_lays_124 LL xs
  | 139 => sg_L_lays_139 LL xs
  | 159 => sg_L_lays_159 LL xs
  | 238 => sg_L_lays_238 LL xs
  | 240 => sg_L_lays_240 LL xs
  | 259 => sg_L_lays_259 LL xs
  | _ => []
def E_L_lays (LL : Nat) (xs : Nat → Int32) (Γ : jΓ) (Q : jPost) : Prop := Γ.2.2.2.2.2.2.2.2.2.2.1 = 10 ∧ Γ.2.2.2.2.2.2.2.2.2.2.2.1 = vwCl ∧ jC Γ cL_lays RL "lays" (some .int) wsL_lays 3 69 0 0 ∧ jR Γ Q 0 0 ∧ LL ≤ 260 ∧ ∃ b, jSc Γ b LL xs
theorem oo_L_lays_0 {Γ : jΓ} {Q : jPost} {LL : Nat} {xs : Nat → Int32} (E : E_L_lays LL xs Γ Q) : jSA Γ Q 0 (o_aload 1) 1 := by
  have C := E.2.2.1
  exact so_aload_n C rfl dL_lays_0
theorem oo_L_lays_1 {Γ : jΓ} {Q : jPost} {LL : Nat} {xs : Nat → Int32} (E : E_L_lays LL xs Γ Q) : jSA Γ Q 1 (o_ic (0)) 1 := by
  have C := E.2.2.1
  exact so_iconst C rfl dL_lays_1
theorem oo_L_lays_2 {Γ : jΓ} {Q : jPost} {LL : Nat} {xs : Nat → Int32} (E : E_L_lays LL xs Γ Q) : jSA Γ Q 2 (o_call 2 (T_L_cell LL xs)) 3 := by
  have C := E.2.2.1
  obtain ⟨b0, S⟩ := E.2.2.2.2.2
  exact so_callSS C S gL_lays_L_cell (by decide +kernel) rfl (by rw [E.2.1]; exact m_L_cell _ E.2.2.2.2.1) (by decide) (by decide) dL_lays_2
theorem oo_L_lays_5 {Γ : jΓ} {Q : jPost} {LL : Nat} {xs : Nat → Int32} (E : E_L_lays LL xs Γ Q) : jSA Γ Q 5 (o_ic (1)) 1 := by
  have C := E.2.2.1
  exact so_iconst C rfl dL_lays_5
theorem oo_L_lays_6 {Γ : jΓ} {Q : jPost} {LL : Nat} {xs : Nat → Int32} (E : E_L_lays LL xs Γ Q) : jSA Γ Q 6 (o_iand) 1 := by
  have C := E.2.2.1
  exact so_iand C dL_lays_6
theorem oo_L_lays_7 {Γ : jΓ} {Q : jPost} {LL : Nat} {xs : Nat → Int32} (E : E_L_lays LL xs Γ Q) : jSA Γ Q 7 (o_istore 2) 1 := by
  have C := E.2.2.1
  exact so_istore_n C rfl (by rw [E.1]; decide) dL_lays_7
theorem oo_L_lays_8 {Γ : jΓ} {Q : jPost} {LL : Nat} {xs : Nat → Int32} (E : E_L_lays LL xs Γ Q) : jSA Γ Q 8 (o_ic (2)) 1 := by
  have C := E.2.2.1
  exact so_iconst C rfl dL_lays_8
theorem oo_L_lays_9 {Γ : jΓ} {Q : jPost} {LL : Nat} {xs : Nat → Int32} (E : E_L_lays LL xs Γ Q) : jSA Γ Q 9 (o_aload 1) 1 := by
  have C := E.2.2.1
  exact so_aload_n C rfl dL_lays_9
theorem oo_L_lays_10 {Γ : jΓ} {Q : jPost} {LL : Nat} {xs : Nat → Int32} (E : E_L_lays LL xs Γ Q) : jSA Γ Q 10 (o_ic (1)) 1 := by
  have C := E.2.2.1
  exact so_iconst C rfl dL_lays_10
theorem oo_L_lays_11 {Γ : jΓ} {Q : jPost} {LL : Nat} {xs : Nat → Int32} (E : E_L_lays LL xs Γ Q) : jSA Γ Q 11 (o_call 2 (T_L_cell LL xs)) 3 := by
  have C := E.2.2.1
  obtain ⟨b0, S⟩ := E.2.2.2.2.2
  exact so_callSS C S gL_lays_L_cell (by decide +kernel) rfl (by rw [E.2.1]; exact m_L_cell _ E.2.2.2.2.1) (by decide) (by decide) dL_lays_11
theorem oo_L_lays_14 {Γ : jΓ} {Q : jPost} {LL : Nat} {xs : Nat → Int32} (E : E_L_lays LL xs Γ Q) : jSA Γ Q 14 (o_ic (11)) 2 := by
  have C := E.2.2.1
  exact so_bipush C rfl dL_lays_14
theorem oo_L_lays_16 {Γ : jΓ} {Q : jPost} {LL : Nat} {xs : Nat → Int32} (E : E_L_lays LL xs Γ Q) : jSA Γ Q 16 (o_irem) 1 := by
  have C := E.2.2.1
  exact so_irem C dL_lays_16
theorem oo_L_lays_17 {Γ : jΓ} {Q : jPost} {LL : Nat} {xs : Nat → Int32} (E : E_L_lays LL xs Γ Q) : jSA Γ Q 17 (o_iadd) 1 := by
  have C := E.2.2.1
  exact so_iadd C dL_lays_17
theorem oo_L_lays_18 {Γ : jΓ} {Q : jPost} {LL : Nat} {xs : Nat → Int32} (E : E_L_lays LL xs Γ Q) : jSA Γ Q 18 (o_istore 3) 1 := by
  have C := E.2.2.1
  exact so_istore_n C rfl (by rw [E.1]; decide) dL_lays_18
theorem oo_L_lays_19 {Γ : jΓ} {Q : jPost} {LL : Nat} {xs : Nat → Int32} (E : E_L_lays LL xs Γ Q) : jSA Γ Q 19 (o_aload 0) 1 := by
  have C := E.2.2.1
  exact so_aload_n C rfl dL_lays_19
theorem oo_L_lays_20 {Γ : jΓ} {Q : jPost} {LL : Nat} {xs : Nat → Int32} (E : E_L_lays LL xs Γ Q) : jSA Γ Q 20 (o_iload 2) 1 := by
  have C := E.2.2.1
  exact so_iload_n C rfl dL_lays_20
theorem oo_L_lays_21 {Γ : jΓ} {Q : jPost} {LL : Nat} {xs : Nat → Int32} (E : E_L_lays LL xs Γ Q) : jSA Γ Q 21 (o_iload 3) 1 := by
  have C := E.2.2.1
  exact so_iload_n C rfl dL_lays_21
theorem oo_L_lays_22 {Γ : jΓ} {Q : jPost} {LL : Nat} {xs : Nat → Int32} (E : E_L_lays LL xs Γ Q) : jSA Γ Q 22 (o_callV 3 6 T_X6_floor) 3 := by
  have C := E.2.2.1
  exact so_callV C (ci := 6) (by rw [E.2.1]; rfl) gL_lays_X6_floor (by decide +kernel) rfl (by rw [E.2.1]; exact m_X6_floor _) (by decide) (by decide) dL_lays_22
theorem oo_L_lays_25 {Γ : jΓ} {Q : jPost} {LL : Nat} {xs : Nat → Int32} (E : E_L_lays LL xs Γ Q) : jSA Γ Q 25 (o_istore 4) 2 := by
  have C := E.2.2.1
  exact so_istore C (by rw [E.1]; decide) dL_lays_25
theorem oo_L_lays_27 {Γ : jΓ} {Q : jPost} {LL : Nat} {xs : Nat → Int32} (E : E_L_lays LL xs Γ Q) : jSA Γ Q 27 (o_ic (0)) 1 := by
  have C := E.2.2.1
  exact so_iconst C rfl dL_lays_27
theorem oo_L_lays_28 {Γ : jΓ} {Q : jPost} {LL : Nat} {xs : Nat → Int32} (E : E_L_lays LL xs Γ Q) : jSA Γ Q 28 (o_istore 5) 2 := by
  have C := E.2.2.1
  exact so_istore C (by rw [E.1]; decide) dL_lays_28
theorem oo_L_lays_30 {Γ : jΓ} {Q : jPost} {LL : Nat} {xs : Nat → Int32} (E : E_L_lays LL xs Γ Q) : jSA Γ Q 30 (o_iload 5) 2 := by
  have C := E.2.2.1
  exact so_iload C dL_lays_30
theorem oo_L_lays_32 {Γ : jΓ} {Q : jPost} {LL : Nat} {xs : Nat → Int32} (E : E_L_lays LL xs Γ Q) : jSA Γ Q 32 (o_ic (4)) 1 := by
  have C := E.2.2.1
  exact so_iconst C rfl dL_lays_32
theorem oo_L_lays_33 {Γ : jΓ} {Q : jPost} {LL : Nat} {xs : Nat → Int32} (E : E_L_lays LL xs Γ Q) : jSA Γ Q 33 (o_icge 173) 3 := by
  have C := E.2.2.1
  exact so_icge C (by decide) dL_lays_33
theorem oo_L_lays_36 {Γ : jΓ} {Q : jPost} {LL : Nat} {xs : Nat → Int32} (E : E_L_lays LL xs Γ Q) : jSA Γ Q 36 (o_ic (0)) 1 := by
  have C := E.2.2.1
  exact so_iconst C rfl dL_lays_36
theorem oo_L_lays_37 {Γ : jΓ} {Q : jPost} {LL : Nat} {xs : Nat → Int32} (E : E_L_lays LL xs Γ Q) : jSA Γ Q 37 (o_istore 6) 2 := by
  have C := E.2.2.1
  exact so_istore C (by rw [E.1]; decide) dL_lays_37
theorem oo_L_lays_39 {Γ : jΓ} {Q : jPost} {LL : Nat} {xs : Nat → Int32} (E : E_L_lays LL xs Γ Q) : jSA Γ Q 39 (o_iload 6) 2 := by
  have C := E.2.2.1
  exact so_iload C dL_lays_39
theorem oo_L_lays_41 {Γ : jΓ} {Q : jPost} {LL : Nat} {xs : Nat → Int32} (E : E_L_lays LL xs Γ Q) : jSA Γ Q 41 (o_iload 3) 1 := by
  have C := E.2.2.1
  exact so_iload_n C rfl dL_lays_41
theorem oo_L_lays_42 {Γ : jΓ} {Q : jPost} {LL : Nat} {xs : Nat → Int32} (E : E_L_lays LL xs Γ Q) : jSA Γ Q 42 (o_icge 159) 3 := by
  have C := E.2.2.1
  exact so_icge C (by decide) dL_lays_42
theorem oo_L_lays_45 {Γ : jΓ} {Q : jPost} {LL : Nat} {xs : Nat → Int32} (E : E_L_lays LL xs Γ Q) : jSA Γ Q 45 (o_aload 1) 1 := by
  have C := E.2.2.1
  exact so_aload_n C rfl dL_lays_45
theorem oo_L_lays_46 {Γ : jΓ} {Q : jPost} {LL : Nat} {xs : Nat → Int32} (E : E_L_lays LL xs Γ Q) : jSA Γ Q 46 (o_ic (2)) 1 := by
  have C := E.2.2.1
  exact so_iconst C rfl dL_lays_46
theorem oo_L_lays_47 {Γ : jΓ} {Q : jPost} {LL : Nat} {xs : Nat → Int32} (E : E_L_lays LL xs Γ Q) : jSA Γ Q 47 (o_iload 5) 2 := by
  have C := E.2.2.1
  exact so_iload C dL_lays_47
theorem oo_L_lays_49 {Γ : jΓ} {Q : jPost} {LL : Nat} {xs : Nat → Int32} (E : E_L_lays LL xs Γ Q) : jSA Γ Q 49 (o_ic (3)) 1 := by
  have C := E.2.2.1
  exact so_iconst C rfl dL_lays_49
theorem oo_L_lays_50 {Γ : jΓ} {Q : jPost} {LL : Nat} {xs : Nat → Int32} (E : E_L_lays LL xs Γ Q) : jSA Γ Q 50 (o_imul) 1 := by
  have C := E.2.2.1
  exact so_imul C dL_lays_50
theorem oo_L_lays_51 {Γ : jΓ} {Q : jPost} {LL : Nat} {xs : Nat → Int32} (E : E_L_lays LL xs Γ Q) : jSA Γ Q 51 (o_iadd) 1 := by
  have C := E.2.2.1
  exact so_iadd C dL_lays_51
theorem oo_L_lays_52 {Γ : jΓ} {Q : jPost} {LL : Nat} {xs : Nat → Int32} (E : E_L_lays LL xs Γ Q) : jSA Γ Q 52 (o_iload 6) 2 := by
  have C := E.2.2.1
  exact so_iload C dL_lays_52
theorem oo_L_lays_54 {Γ : jΓ} {Q : jPost} {LL : Nat} {xs : Nat → Int32} (E : E_L_lays LL xs Γ Q) : jSA Γ Q 54 (o_iadd) 1 := by
  have C := E.2.2.1
  exact so_iadd C dL_lays_54
theorem oo_L_lays_55 {Γ : jΓ} {Q : jPost} {LL : Nat} {xs : Nat → Int32} (E : E_L_lays LL xs Γ Q) : jSA Γ Q 55 (o_call 2 (T_L_cell LL xs)) 3 := by
  have C := E.2.2.1
  obtain ⟨b0, S⟩ := E.2.2.2.2.2
  exact so_callSS C S gL_lays_L_cell (by decide +kernel) rfl (by rw [E.2.1]; exact m_L_cell _ E.2.2.2.2.1) (by decide) (by decide) dL_lays_55
theorem oo_L_lays_58 {Γ : jΓ} {Q : jPost} {LL : Nat} {xs : Nat → Int32} (E : E_L_lays LL xs Γ Q) : jSA Γ Q 58 (o_iload 6) 2 := by
  have C := E.2.2.1
  exact so_iload C dL_lays_58
theorem oo_L_lays_60 {Γ : jΓ} {Q : jPost} {LL : Nat} {xs : Nat → Int32} (E : E_L_lays LL xs Γ Q) : jSA Γ Q 60 (o_ishr) 1 := by
  have C := E.2.2.1
  exact so_ishr C dL_lays_60
theorem oo_L_lays_61 {Γ : jΓ} {Q : jPost} {LL : Nat} {xs : Nat → Int32} (E : E_L_lays LL xs Γ Q) : jSA Γ Q 61 (o_istore 7) 2 := by
  have C := E.2.2.1
  exact so_istore C (by rw [E.1]; decide) dL_lays_61
theorem oo_L_lays_63 {Γ : jΓ} {Q : jPost} {LL : Nat} {xs : Nat → Int32} (E : E_L_lays LL xs Γ Q) : jSA Γ Q 63 (o_iload 7) 2 := by
  have C := E.2.2.1
  exact so_iload C dL_lays_63
theorem oo_L_lays_65 {Γ : jΓ} {Q : jPost} {LL : Nat} {xs : Nat → Int32} (E : E_L_lays LL xs Γ Q) : jSA Γ Q 65 (o_ic (4)) 1 := by
  have C := E.2.2.1
  exact so_iconst C rfl dL_lays_65
theorem oo_L_lays_66 {Γ : jΓ} {Q : jPost} {LL : Nat} {xs : Nat → Int32} (E : E_L_lays LL xs Γ Q) : jSA Γ Q 66 (o_irem) 1 := by
  have C := E.2.2.1
  exact so_irem C dL_lays_66
theorem oo_L_lays_67 {Γ : jΓ} {Q : jPost} {LL : Nat} {xs : Nat → Int32} (E : E_L_lays LL xs Γ Q) : jSA Γ Q 67 (o_ifne 75) 3 := by
  have C := E.2.2.1
  exact so_ifne C (by decide) dL_lays_67
theorem oo_L_lays_70 {Γ : jΓ} {Q : jPost} {LL : Nat} {xs : Nat → Int32} (E : E_L_lays LL xs Γ Q) : jSA Γ Q 70 (o_ic (78)) 2 := by
  have C := E.2.2.1
  exact so_bipush C rfl dL_lays_70
theorem oo_L_lays_72 {Γ : jΓ} {Q : jPost} {LL : Nat} {xs : Nat → Int32} (E : E_L_lays LL xs Γ Q) : jSA Γ Q 72 (o_goto 141) 3 := by
  have C := E.2.2.1
  exact so_goto C (by decide) dL_lays_72
theorem oo_L_lays_75 {Γ : jΓ} {Q : jPost} {LL : Nat} {xs : Nat → Int32} (E : E_L_lays LL xs Γ Q) : jSA Γ Q 75 (o_iload 7) 2 := by
  have C := E.2.2.1
  exact so_iload C dL_lays_75
theorem oo_L_lays_77 {Γ : jΓ} {Q : jPost} {LL : Nat} {xs : Nat → Int32} (E : E_L_lays LL xs Γ Q) : jSA Γ Q 77 (o_ic (4)) 1 := by
  have C := E.2.2.1
  exact so_iconst C rfl dL_lays_77
theorem oo_L_lays_78 {Γ : jΓ} {Q : jPost} {LL : Nat} {xs : Nat → Int32} (E : E_L_lays LL xs Γ Q) : jSA Γ Q 78 (o_irem) 1 := by
  have C := E.2.2.1
  exact so_irem C dL_lays_78
theorem oo_L_lays_79 {Γ : jΓ} {Q : jPost} {LL : Nat} {xs : Nat → Int32} (E : E_L_lays LL xs Γ Q) : jSA Γ Q 79 (o_ic (1)) 1 := by
  have C := E.2.2.1
  exact so_iconst C rfl dL_lays_79
theorem oo_L_lays_80 {Γ : jΓ} {Q : jPost} {LL : Nat} {xs : Nat → Int32} (E : E_L_lays LL xs Γ Q) : jSA Γ Q 80 (o_icne 88) 3 := by
  have C := E.2.2.1
  exact so_icne C (by decide) dL_lays_80
theorem oo_L_lays_83 {Γ : jΓ} {Q : jPost} {LL : Nat} {xs : Nat → Int32} (E : E_L_lays LL xs Γ Q) : jSA Γ Q 83 (o_ic (82)) 2 := by
  have C := E.2.2.1
  exact so_bipush C rfl dL_lays_83
theorem oo_L_lays_85 {Γ : jΓ} {Q : jPost} {LL : Nat} {xs : Nat → Int32} (E : E_L_lays LL xs Γ Q) : jSA Γ Q 85 (o_goto 141) 3 := by
  have C := E.2.2.1
  exact so_goto C (by decide) dL_lays_85
theorem oo_L_lays_88 {Γ : jΓ} {Q : jPost} {LL : Nat} {xs : Nat → Int32} (E : E_L_lays LL xs Γ Q) : jSA Γ Q 88 (o_iload 7) 2 := by
  have C := E.2.2.1
  exact so_iload C dL_lays_88
theorem oo_L_lays_90 {Γ : jΓ} {Q : jPost} {LL : Nat} {xs : Nat → Int32} (E : E_L_lays LL xs Γ Q) : jSA Γ Q 90 (o_ic (4)) 1 := by
  have C := E.2.2.1
  exact so_iconst C rfl dL_lays_90
theorem oo_L_lays_91 {Γ : jΓ} {Q : jPost} {LL : Nat} {xs : Nat → Int32} (E : E_L_lays LL xs Γ Q) : jSA Γ Q 91 (o_irem) 1 := by
  have C := E.2.2.1
  exact so_irem C dL_lays_91
theorem oo_L_lays_92 {Γ : jΓ} {Q : jPost} {LL : Nat} {xs : Nat → Int32} (E : E_L_lays LL xs Γ Q) : jSA Γ Q 92 (o_ic (2)) 1 := by
  have C := E.2.2.1
  exact so_iconst C rfl dL_lays_92
theorem oo_L_lays_93 {Γ : jΓ} {Q : jPost} {LL : Nat} {xs : Nat → Int32} (E : E_L_lays LL xs Γ Q) : jSA Γ Q 93 (o_icne 101) 3 := by
  have C := E.2.2.1
  exact so_icne C (by decide) dL_lays_93
theorem oo_L_lays_96 {Γ : jΓ} {Q : jPost} {LL : Nat} {xs : Nat → Int32} (E : E_L_lays LL xs Γ Q) : jSA Γ Q 96 (o_ic (76)) 2 := by
  have C := E.2.2.1
  exact so_bipush C rfl dL_lays_96
theorem oo_L_lays_98 {Γ : jΓ} {Q : jPost} {LL : Nat} {xs : Nat → Int32} (E : E_L_lays LL xs Γ Q) : jSA Γ Q 98 (o_goto 141) 3 := by
  have C := E.2.2.1
  exact so_goto C (by decide) dL_lays_98
theorem oo_L_lays_101 {Γ : jΓ} {Q : jPost} {LL : Nat} {xs : Nat → Int32} (E : E_L_lays LL xs Γ Q) : jSA Γ Q 101 (o_iload 7) 2 := by
  have C := E.2.2.1
  exact so_iload C dL_lays_101
theorem oo_L_lays_103 {Γ : jΓ} {Q : jPost} {LL : Nat} {xs : Nat → Int32} (E : E_L_lays LL xs Γ Q) : jSA Γ Q 103 (o_ic (8)) 2 := by
  have C := E.2.2.1
  exact so_bipush C rfl dL_lays_103
theorem oo_L_lays_105 {Γ : jΓ} {Q : jPost} {LL : Nat} {xs : Nat → Int32} (E : E_L_lays LL xs Γ Q) : jSA Γ Q 105 (o_irem) 1 := by
  have C := E.2.2.1
  exact so_irem C dL_lays_105
theorem oo_L_lays_106 {Γ : jΓ} {Q : jPost} {LL : Nat} {xs : Nat → Int32} (E : E_L_lays LL xs Γ Q) : jSA Γ Q 106 (o_ic (3)) 1 := by
  have C := E.2.2.1
  exact so_iconst C rfl dL_lays_106
theorem oo_L_lays_107 {Γ : jΓ} {Q : jPost} {LL : Nat} {xs : Nat → Int32} (E : E_L_lays LL xs Γ Q) : jSA Γ Q 107 (o_icne 115) 3 := by
  have C := E.2.2.1
  exact so_icne C (by decide) dL_lays_107
theorem oo_L_lays_110 {Γ : jΓ} {Q : jPost} {LL : Nat} {xs : Nat → Int32} (E : E_L_lays LL xs Γ Q) : jSA Γ Q 110 (o_ic (85)) 2 := by
  have C := E.2.2.1
  exact so_bipush C rfl dL_lays_110
theorem oo_L_lays_112 {Γ : jΓ} {Q : jPost} {LL : Nat} {xs : Nat → Int32} (E : E_L_lays LL xs Γ Q) : jSA Γ Q 112 (o_goto 141) 3 := by
  have C := E.2.2.1
  exact so_goto C (by decide) dL_lays_112
theorem oo_L_lays_115 {Γ : jΓ} {Q : jPost} {LL : Nat} {xs : Nat → Int32} (E : E_L_lays LL xs Γ Q) : jSA Γ Q 115 (o_iload 2) 1 := by
  have C := E.2.2.1
  exact so_iload_n C rfl dL_lays_115
theorem oo_L_lays_116 {Γ : jΓ} {Q : jPost} {LL : Nat} {xs : Nat → Int32} (E : E_L_lays LL xs Γ Q) : jSA Γ Q 116 (o_ifne 124) 3 := by
  have C := E.2.2.1
  exact so_ifne C (by decide) dL_lays_116
theorem oo_L_lays_119 {Γ : jΓ} {Q : jPost} {LL : Nat} {xs : Nat → Int32} (E : E_L_lays LL xs Γ Q) : jSA Γ Q 119 (o_ic (82)) 2 := by
  have C := E.2.2.1
  exact so_bipush C rfl dL_lays_119
theorem oo_L_lays_121 {Γ : jΓ} {Q : jPost} {LL : Nat} {xs : Nat → Int32} (E : E_L_lays LL xs Γ Q) : jSA Γ Q 121 (o_goto 141) 3 := by
  have C := E.2.2.1
  exact so_goto C (by decide) dL_lays_121
theorem oo_L_lays_124 {Γ : jΓ} {Q : jPost} {LL : Nat} {xs : Nat → Int32} (E : E_L_lays LL xs Γ Q) : jSA Γ Q 124 (o_iload 7) 2 := by
  have C := E.2.2.1
  exact so_iload C dL_lays_124
theorem oo_L_lays_126 {Γ : jΓ} {Q : jPost} {LL : Nat} {xs : Nat → Int32} (E : E_L_lays LL xs Γ Q) : jSA Γ Q 126 (o_ic (16)) 2 := by
  have C := E.2.2.1
  exact so_bipush C rfl dL_lays_126
theorem oo_L_lays_128 {Γ : jΓ} {Q : jPost} {LL : Nat} {xs : Nat → Int32} (E : E_L_lays LL xs Γ Q) : jSA Γ Q 128 (o_irem) 1 := by
  have C := E.2.2.1
  exact so_irem C dL_lays_128
theorem oo_L_lays_129 {Γ : jΓ} {Q : jPost} {LL : Nat} {xs : Nat → Int32} (E : E_L_lays LL xs Γ Q) : jSA Γ Q 129 (o_ic (7)) 2 := by
  have C := E.2.2.1
  exact so_bipush C rfl dL_lays_129
theorem oo_L_lays_131 {Γ : jΓ} {Q : jPost} {LL : Nat} {xs : Nat → Int32} (E : E_L_lays LL xs Γ Q) : jSA Γ Q 131 (o_icne 139) 3 := by
  have C := E.2.2.1
  exact so_icne C (by decide) dL_lays_131
theorem oo_L_lays_134 {Γ : jΓ} {Q : jPost} {LL : Nat} {xs : Nat → Int32} (E : E_L_lays LL xs Γ Q) : jSA Γ Q 134 (o_ic (83)) 2 := by
  have C := E.2.2.1
  exact so_bipush C rfl dL_lays_134
theorem oo_L_lays_136 {Γ : jΓ} {Q : jPost} {LL : Nat} {xs : Nat → Int32} (E : E_L_lays LL xs Γ Q) : jSA Γ Q 136 (o_goto 141) 3 := by
  have C := E.2.2.1
  exact so_goto C (by decide) dL_lays_136
theorem oo_L_lays_139 {Γ : jΓ} {Q : jPost} {LL : Nat} {xs : Nat → Int32} (E : E_L_lays LL xs Γ Q) : jSA Γ Q 139 (o_ic (77)) 2 := by
  have C := E.2.2.1
  exact so_bipush C rfl dL_lays_139
theorem oo_L_lays_141 {Γ : jΓ} {Q : jPost} {LL : Nat} {xs : Nat → Int32} (E : E_L_lays LL xs Γ Q) : jSA Γ Q 141 (o_istore 8) 2 := by
  have C := E.2.2.1
  exact so_istore C (by rw [E.1]; decide) dL_lays_141
theorem oo_L_lays_143 {Γ : jΓ} {Q : jPost} {LL : Nat} {xs : Nat → Int32} (E : E_L_lays LL xs Γ Q) : jSA Γ Q 143 (o_aload 0) 1 := by
  have C := E.2.2.1
  exact so_aload_n C rfl dL_lays_143
theorem oo_L_lays_144 {Γ : jΓ} {Q : jPost} {LL : Nat} {xs : Nat → Int32} (E : E_L_lays LL xs Γ Q) : jSA Γ Q 144 (o_iload 8) 2 := by
  have C := E.2.2.1
  exact so_iload C dL_lays_144
theorem oo_L_lays_146 {Γ : jΓ} {Q : jPost} {LL : Nat} {xs : Nat → Int32} (E : E_L_lays LL xs Γ Q) : jSA Γ Q 146 (o_i2l) 1 := by
  have C := E.2.2.1
  exact so_i2l C dL_lays_146
theorem oo_L_lays_147 {Γ : jΓ} {Q : jPost} {LL : Nat} {xs : Nat → Int32} (E : E_L_lays LL xs Γ Q) : jSA Γ Q 147 (o_ic (1)) 1 := by
  have C := E.2.2.1
  exact so_iconst C rfl dL_lays_147
theorem oo_L_lays_148 {Γ : jΓ} {Q : jPost} {LL : Nat} {xs : Nat → Int32} (E : E_L_lays LL xs Γ Q) : jSA Γ Q 148 (o_callV 3 6 T_X6_type) 3 := by
  have C := E.2.2.1
  exact so_callV C (ci := 6) (by rw [E.2.1]; rfl) gL_lays_X6_type (by decide +kernel) rfl (by rw [E.2.1]; exact m_X6_type _) (by decide) (by decide) dL_lays_148
theorem oo_L_lays_151 {Γ : jΓ} {Q : jPost} {LL : Nat} {xs : Nat → Int32} (E : E_L_lays LL xs Γ Q) : jSA Γ Q 151 (o_istore 9) 2 := by
  have C := E.2.2.1
  exact so_istore C (by rw [E.1]; decide) dL_lays_151
theorem oo_L_lays_153 {Γ : jΓ} {Q : jPost} {LL : Nat} {xs : Nat → Int32} (E : E_L_lays LL xs Γ Q) : jSA Γ Q 153 (o_iinc 6 (1)) 3 := by
  have C := E.2.2.1
  exact so_iinc C rfl (by rw [E.1]; decide) dL_lays_153
theorem oo_L_lays_156 {Γ : jΓ} {Q : jPost} {LL : Nat} {xs : Nat → Int32} (E : E_L_lays LL xs Γ Q) : jSA Γ Q 156 (o_goto 39) 3 := by
  have C := E.2.2.1
  exact so_goto C (by decide) dL_lays_156
theorem oo_L_lays_159 {Γ : jΓ} {Q : jPost} {LL : Nat} {xs : Nat → Int32} (E : E_L_lays LL xs Γ Q) : jSA Γ Q 159 (o_aload 0) 1 := by
  have C := E.2.2.1
  exact so_aload_n C rfl dL_lays_159
theorem oo_L_lays_160 {Γ : jΓ} {Q : jPost} {LL : Nat} {xs : Nat → Int32} (E : E_L_lays LL xs Γ Q) : jSA Γ Q 160 (o_iload 5) 2 := by
  have C := E.2.2.1
  exact so_iload C dL_lays_160
theorem oo_L_lays_162 {Γ : jΓ} {Q : jPost} {LL : Nat} {xs : Nat → Int32} (E : E_L_lays LL xs Γ Q) : jSA Γ Q 162 (o_callV 2 6 T_X6_rule) 3 := by
  have C := E.2.2.1
  exact so_callV C (ci := 6) (by rw [E.2.1]; rfl) gL_lays_X6_rule (by decide +kernel) rfl (by rw [E.2.1]; exact m_X6_rule _) (by decide) (by decide) dL_lays_162
theorem oo_L_lays_165 {Γ : jΓ} {Q : jPost} {LL : Nat} {xs : Nat → Int32} (E : E_L_lays LL xs Γ Q) : jSA Γ Q 165 (o_istore 6) 2 := by
  have C := E.2.2.1
  exact so_istore C (by rw [E.1]; decide) dL_lays_165
theorem oo_L_lays_167 {Γ : jΓ} {Q : jPost} {LL : Nat} {xs : Nat → Int32} (E : E_L_lays LL xs Γ Q) : jSA Γ Q 167 (o_iinc 5 (1)) 3 := by
  have C := E.2.2.1
  exact so_iinc C rfl (by rw [E.1]; decide) dL_lays_167
theorem oo_L_lays_170 {Γ : jΓ} {Q : jPost} {LL : Nat} {xs : Nat → Int32} (E : E_L_lays LL xs Γ Q) : jSA Γ Q 170 (o_goto 30) 3 := by
  have C := E.2.2.1
  exact so_goto C (by decide) dL_lays_170
theorem oo_L_lays_173 {Γ : jΓ} {Q : jPost} {LL : Nat} {xs : Nat → Int32} (E : E_L_lays LL xs Γ Q) : jSA Γ Q 173 (o_ic (1)) 1 := by
  have C := E.2.2.1
  exact so_iconst C rfl dL_lays_173
theorem oo_L_lays_174 {Γ : jΓ} {Q : jPost} {LL : Nat} {xs : Nat → Int32} (E : E_L_lays LL xs Γ Q) : jSA Γ Q 174 (o_aload 1) 1 := by
  have C := E.2.2.1
  exact so_aload_n C rfl dL_lays_174
theorem oo_L_lays_175 {Γ : jΓ} {Q : jPost} {LL : Nat} {xs : Nat → Int32} (E : E_L_lays LL xs Γ Q) : jSA Γ Q 175 (o_ic (20)) 2 := by
  have C := E.2.2.1
  exact so_bipush C rfl dL_lays_175
theorem oo_L_lays_177 {Γ : jΓ} {Q : jPost} {LL : Nat} {xs : Nat → Int32} (E : E_L_lays LL xs Γ Q) : jSA Γ Q 177 (o_call 2 (T_L_cell LL xs)) 3 := by
  have C := E.2.2.1
  obtain ⟨b0, S⟩ := E.2.2.2.2.2
  exact so_callSS C S gL_lays_L_cell (by decide +kernel) rfl (by rw [E.2.1]; exact m_L_cell _ E.2.2.2.2.1) (by decide) (by decide) dL_lays_177
theorem oo_L_lays_180 {Γ : jΓ} {Q : jPost} {LL : Nat} {xs : Nat → Int32} (E : E_L_lays LL xs Γ Q) : jSA Γ Q 180 (o_ic (4)) 1 := by
  have C := E.2.2.1
  exact so_iconst C rfl dL_lays_180
theorem oo_L_lays_181 {Γ : jΓ} {Q : jPost} {LL : Nat} {xs : Nat → Int32} (E : E_L_lays LL xs Γ Q) : jSA Γ Q 181 (o_irem) 1 := by
  have C := E.2.2.1
  exact so_irem C dL_lays_181
theorem oo_L_lays_182 {Γ : jΓ} {Q : jPost} {LL : Nat} {xs : Nat → Int32} (E : E_L_lays LL xs Γ Q) : jSA Γ Q 182 (o_iadd) 1 := by
  have C := E.2.2.1
  exact so_iadd C dL_lays_182
theorem oo_L_lays_183 {Γ : jΓ} {Q : jPost} {LL : Nat} {xs : Nat → Int32} (E : E_L_lays LL xs Γ Q) : jSA Γ Q 183 (o_istore 5) 2 := by
  have C := E.2.2.1
  exact so_istore C (by rw [E.1]; decide) dL_lays_183
theorem oo_L_lays_185 {Γ : jΓ} {Q : jPost} {LL : Nat} {xs : Nat → Int32} (E : E_L_lays LL xs Γ Q) : jSA Γ Q 185 (o_ic (0)) 1 := by
  have C := E.2.2.1
  exact so_iconst C rfl dL_lays_185
theorem oo_L_lays_186 {Γ : jΓ} {Q : jPost} {LL : Nat} {xs : Nat → Int32} (E : E_L_lays LL xs Γ Q) : jSA Γ Q 186 (o_istore 6) 2 := by
  have C := E.2.2.1
  exact so_istore C (by rw [E.1]; decide) dL_lays_186
theorem oo_L_lays_188 {Γ : jΓ} {Q : jPost} {LL : Nat} {xs : Nat → Int32} (E : E_L_lays LL xs Γ Q) : jSA Γ Q 188 (o_iload 6) 2 := by
  have C := E.2.2.1
  exact so_iload C dL_lays_188
theorem oo_L_lays_190 {Γ : jΓ} {Q : jPost} {LL : Nat} {xs : Nat → Int32} (E : E_L_lays LL xs Γ Q) : jSA Γ Q 190 (o_iload 5) 2 := by
  have C := E.2.2.1
  exact so_iload C dL_lays_190
theorem oo_L_lays_192 {Γ : jΓ} {Q : jPost} {LL : Nat} {xs : Nat → Int32} (E : E_L_lays LL xs Γ Q) : jSA Γ Q 192 (o_icge 259) 3 := by
  have C := E.2.2.1
  exact so_icge C (by decide) dL_lays_192
theorem oo_L_lays_195 {Γ : jΓ} {Q : jPost} {LL : Nat} {xs : Nat → Int32} (E : E_L_lays LL xs Γ Q) : jSA Γ Q 195 (o_aload 1) 1 := by
  have C := E.2.2.1
  exact so_aload_n C rfl dL_lays_195
theorem oo_L_lays_196 {Γ : jΓ} {Q : jPost} {LL : Nat} {xs : Nat → Int32} (E : E_L_lays LL xs Γ Q) : jSA Γ Q 196 (o_ic (21)) 2 := by
  have C := E.2.2.1
  exact so_bipush C rfl dL_lays_196
theorem oo_L_lays_198 {Γ : jΓ} {Q : jPost} {LL : Nat} {xs : Nat → Int32} (E : E_L_lays LL xs Γ Q) : jSA Γ Q 198 (o_iload 6) 2 := by
  have C := E.2.2.1
  exact so_iload C dL_lays_198
theorem oo_L_lays_200 {Γ : jΓ} {Q : jPost} {LL : Nat} {xs : Nat → Int32} (E : E_L_lays LL xs Γ Q) : jSA Γ Q 200 (o_iadd) 1 := by
  have C := E.2.2.1
  exact so_iadd C dL_lays_200
theorem oo_L_lays_201 {Γ : jΓ} {Q : jPost} {LL : Nat} {xs : Nat → Int32} (E : E_L_lays LL xs Γ Q) : jSA Γ Q 201 (o_call 2 (T_L_cell LL xs)) 3 := by
  have C := E.2.2.1
  obtain ⟨b0, S⟩ := E.2.2.2.2.2
  exact so_callSS C S gL_lays_L_cell (by decide +kernel) rfl (by rw [E.2.1]; exact m_L_cell _ E.2.2.2.2.1) (by decide) (by decide) dL_lays_201
theorem oo_L_lays_204 {Γ : jΓ} {Q : jPost} {LL : Nat} {xs : Nat → Int32} (E : E_L_lays LL xs Γ Q) : jSA Γ Q 204 (o_istore 7) 2 := by
  have C := E.2.2.1
  exact so_istore C (by rw [E.1]; decide) dL_lays_204
theorem oo_L_lays_206 {Γ : jΓ} {Q : jPost} {LL : Nat} {xs : Nat → Int32} (E : E_L_lays LL xs Γ Q) : jSA Γ Q 206 (o_aload 0) 1 := by
  have C := E.2.2.1
  exact so_aload_n C rfl dL_lays_206
theorem oo_L_lays_207 {Γ : jΓ} {Q : jPost} {LL : Nat} {xs : Nat → Int32} (E : E_L_lays LL xs Γ Q) : jSA Γ Q 207 (o_iload 7) 2 := by
  have C := E.2.2.1
  exact so_iload C dL_lays_207
theorem oo_L_lays_209 {Γ : jΓ} {Q : jPost} {LL : Nat} {xs : Nat → Int32} (E : E_L_lays LL xs Γ Q) : jSA Γ Q 209 (o_ic (15)) 2 := by
  have C := E.2.2.1
  exact so_bipush C rfl dL_lays_209
theorem oo_L_lays_211 {Γ : jΓ} {Q : jPost} {LL : Nat} {xs : Nat → Int32} (E : E_L_lays LL xs Γ Q) : jSA Γ Q 211 (o_irem) 1 := by
  have C := E.2.2.1
  exact so_irem C dL_lays_211
theorem oo_L_lays_212 {Γ : jΓ} {Q : jPost} {LL : Nat} {xs : Nat → Int32} (E : E_L_lays LL xs Γ Q) : jSA Γ Q 212 (o_ic (7)) 2 := by
  have C := E.2.2.1
  exact so_bipush C rfl dL_lays_212
theorem oo_L_lays_214 {Γ : jΓ} {Q : jPost} {LL : Nat} {xs : Nat → Int32} (E : E_L_lays LL xs Γ Q) : jSA Γ Q 214 (o_isub) 1 := by
  have C := E.2.2.1
  exact so_isub C dL_lays_214
theorem oo_L_lays_215 {Γ : jΓ} {Q : jPost} {LL : Nat} {xs : Nat → Int32} (E : E_L_lays LL xs Γ Q) : jSA Γ Q 215 (o_iload 7) 2 := by
  have C := E.2.2.1
  exact so_iload C dL_lays_215
theorem oo_L_lays_217 {Γ : jΓ} {Q : jPost} {LL : Nat} {xs : Nat → Int32} (E : E_L_lays LL xs Γ Q) : jSA Γ Q 217 (o_ic (4)) 1 := by
  have C := E.2.2.1
  exact so_iconst C rfl dL_lays_217
theorem oo_L_lays_218 {Γ : jΓ} {Q : jPost} {LL : Nat} {xs : Nat → Int32} (E : E_L_lays LL xs Γ Q) : jSA Γ Q 218 (o_ishr) 1 := by
  have C := E.2.2.1
  exact so_ishr C dL_lays_218
theorem oo_L_lays_219 {Γ : jΓ} {Q : jPost} {LL : Nat} {xs : Nat → Int32} (E : E_L_lays LL xs Γ Q) : jSA Γ Q 219 (o_ic (15)) 2 := by
  have C := E.2.2.1
  exact so_bipush C rfl dL_lays_219
theorem oo_L_lays_221 {Γ : jΓ} {Q : jPost} {LL : Nat} {xs : Nat → Int32} (E : E_L_lays LL xs Γ Q) : jSA Γ Q 221 (o_irem) 1 := by
  have C := E.2.2.1
  exact so_irem C dL_lays_221
theorem oo_L_lays_222 {Γ : jΓ} {Q : jPost} {LL : Nat} {xs : Nat → Int32} (E : E_L_lays LL xs Γ Q) : jSA Γ Q 222 (o_ic (7)) 2 := by
  have C := E.2.2.1
  exact so_bipush C rfl dL_lays_222
theorem oo_L_lays_224 {Γ : jΓ} {Q : jPost} {LL : Nat} {xs : Nat → Int32} (E : E_L_lays LL xs Γ Q) : jSA Γ Q 224 (o_isub) 1 := by
  have C := E.2.2.1
  exact so_isub C dL_lays_224
theorem oo_L_lays_225 {Γ : jΓ} {Q : jPost} {LL : Nat} {xs : Nat → Int32} (E : E_L_lays LL xs Γ Q) : jSA Γ Q 225 (o_iload 7) 2 := by
  have C := E.2.2.1
  exact so_iload C dL_lays_225
theorem oo_L_lays_227 {Γ : jΓ} {Q : jPost} {LL : Nat} {xs : Nat → Int32} (E : E_L_lays LL xs Γ Q) : jSA Γ Q 227 (o_ic (8)) 2 := by
  have C := E.2.2.1
  exact so_bipush C rfl dL_lays_227
theorem oo_L_lays_229 {Γ : jΓ} {Q : jPost} {LL : Nat} {xs : Nat → Int32} (E : E_L_lays LL xs Γ Q) : jSA Γ Q 229 (o_ishr) 1 := by
  have C := E.2.2.1
  exact so_ishr C dL_lays_229
theorem oo_L_lays_230 {Γ : jΓ} {Q : jPost} {LL : Nat} {xs : Nat → Int32} (E : E_L_lays LL xs Γ Q) : jSA Γ Q 230 (o_iload 2) 1 := by
  have C := E.2.2.1
  exact so_iload_n C rfl dL_lays_230
theorem oo_L_lays_231 {Γ : jΓ} {Q : jPost} {LL : Nat} {xs : Nat → Int32} (E : E_L_lays LL xs Γ Q) : jSA Γ Q 231 (o_ifne 238) 3 := by
  have C := E.2.2.1
  exact so_ifne C (by decide) dL_lays_231
theorem oo_L_lays_234 {Γ : jΓ} {Q : jPost} {LL : Nat} {xs : Nat → Int32} (E : E_L_lays LL xs Γ Q) : jSA Γ Q 234 (o_ic (4)) 1 := by
  have C := E.2.2.1
  exact so_iconst C rfl dL_lays_234
theorem oo_L_lays_235 {Γ : jΓ} {Q : jPost} {LL : Nat} {xs : Nat → Int32} (E : E_L_lays LL xs Γ Q) : jSA Γ Q 235 (o_goto 240) 3 := by
  have C := E.2.2.1
  exact so_goto C (by decide) dL_lays_235
theorem oo_L_lays_238 {Γ : jΓ} {Q : jPost} {LL : Nat} {xs : Nat → Int32} (E : E_L_lays LL xs Γ Q) : jSA Γ Q 238 (o_ic (6)) 2 := by
  have C := E.2.2.1
  exact so_bipush C rfl dL_lays_238
theorem oo_L_lays_240 {Γ : jΓ} {Q : jPost} {LL : Nat} {xs : Nat → Int32} (E : E_L_lays LL xs Γ Q) : jSA Γ Q 240 (o_irem) 1 := by
  have C := E.2.2.1
  exact so_irem C dL_lays_240
theorem oo_L_lays_241 {Γ : jΓ} {Q : jPost} {LL : Nat} {xs : Nat → Int32} (E : E_L_lays LL xs Γ Q) : jSA Γ Q 241 (o_iload 7) 2 := by
  have C := E.2.2.1
  exact so_iload C dL_lays_241
theorem oo_L_lays_243 {Γ : jΓ} {Q : jPost} {LL : Nat} {xs : Nat → Int32} (E : E_L_lays LL xs Γ Q) : jSA Γ Q 243 (o_ic (12)) 2 := by
  have C := E.2.2.1
  exact so_bipush C rfl dL_lays_243
theorem oo_L_lays_245 {Γ : jΓ} {Q : jPost} {LL : Nat} {xs : Nat → Int32} (E : E_L_lays LL xs Γ Q) : jSA Γ Q 245 (o_ishr) 1 := by
  have C := E.2.2.1
  exact so_ishr C dL_lays_245
theorem oo_L_lays_246 {Γ : jΓ} {Q : jPost} {LL : Nat} {xs : Nat → Int32} (E : E_L_lays LL xs Γ Q) : jSA Γ Q 246 (o_ic (3)) 1 := by
  have C := E.2.2.1
  exact so_iconst C rfl dL_lays_246
theorem oo_L_lays_247 {Γ : jΓ} {Q : jPost} {LL : Nat} {xs : Nat → Int32} (E : E_L_lays LL xs Γ Q) : jSA Γ Q 247 (o_iand) 1 := by
  have C := E.2.2.1
  exact so_iand C dL_lays_247
theorem oo_L_lays_248 {Γ : jΓ} {Q : jPost} {LL : Nat} {xs : Nat → Int32} (E : E_L_lays LL xs Γ Q) : jSA Γ Q 248 (o_callV 5 6 T_X6_ant) 3 := by
  have C := E.2.2.1
  exact so_callV C (ci := 6) (by rw [E.2.1]; rfl) gL_lays_X6_ant (by decide +kernel) rfl (by rw [E.2.1]; exact m_X6_ant _) (by decide) (by decide) dL_lays_248
theorem oo_L_lays_251 {Γ : jΓ} {Q : jPost} {LL : Nat} {xs : Nat → Int32} (E : E_L_lays LL xs Γ Q) : jSA Γ Q 251 (o_istore 8) 2 := by
  have C := E.2.2.1
  exact so_istore C (by rw [E.1]; decide) dL_lays_251
theorem oo_L_lays_253 {Γ : jΓ} {Q : jPost} {LL : Nat} {xs : Nat → Int32} (E : E_L_lays LL xs Γ Q) : jSA Γ Q 253 (o_iinc 6 (1)) 3 := by
  have C := E.2.2.1
  exact so_iinc C rfl (by rw [E.1]; decide) dL_lays_253
theorem oo_L_lays_256 {Γ : jΓ} {Q : jPost} {LL : Nat} {xs : Nat → Int32} (E : E_L_lays LL xs Γ Q) : jSA Γ Q 256 (o_goto 188) 3 := by
  have C := E.2.2.1
  exact so_goto C (by decide) dL_lays_256
theorem oo_L_lays_259 {Γ : jΓ} {Q : jPost} {LL : Nat} {xs : Nat → Int32} (E : E_L_lays LL xs Γ Q) : jSA Γ Q 259 (o_iload 3) 1 := by
  have C := E.2.2.1
  exact so_iload_n C rfl dL_lays_259
theorem oo_L_lays_260 {Γ : jΓ} {Q : jPost} {LL : Nat} {xs : Nat → Int32} (E : E_L_lays LL xs Γ Q) : jSA Γ Q 260 (o_ireti) 1 := by
  have C := E.2.2.1
  exact so_ireti C E.2.2.2.1 dL_lays_260
theorem ok_L_lays_0 {Γ : jΓ} {Q : jPost} {LL : Nat} {xs : Nat → Int32} (E : E_L_lays LL xs Γ Q) : jSS Γ Q 0 (sg_L_lays_0 LL xs) := ⟨oo_L_lays_0 E, oo_L_lays_1 E, oo_L_lays_2 E, oo_L_lays_5 E, oo_L_lays_6 E, oo_L_lays_7 E, oo_L_lays_8 E, oo_L_lays_9 E, oo_L_lays_10 E, oo_L_lays_11 E, oo_L_lays_14 E, oo_L_lays_16 E, oo_L_lays_17 E, oo_L_lays_18 E, oo_L_lays_19 E, oo_L_lays_20 E, oo_L_lays_21 E, trivial⟩
theorem ok_L_lays_22 {Γ : jΓ} {Q : jPost} {LL : Nat} {xs : Nat → Int32} (E : E_L_lays LL xs Γ Q) : jSS Γ Q 22 (sg_L_lays_22 LL xs) := ⟨oo_L_lays_22 E, trivial⟩
theorem ok_L_lays_25 {Γ : jΓ} {Q : jPost} {LL : Nat} {xs : Nat → Int32} (E : E_L_lays LL xs Γ Q) : jSS Γ Q 25 (sg_L_lays_25 LL xs) := ⟨oo_L_lays_25 E, oo_L_lays_27 E, oo_L_lays_28 E, trivial⟩
theorem ok_L_lays_30 {Γ : jΓ} {Q : jPost} {LL : Nat} {xs : Nat → Int32} (E : E_L_lays LL xs Γ Q) : jSS Γ Q 30 (sg_L_lays_30 LL xs) := ⟨oo_L_lays_30 E, oo_L_lays_32 E, oo_L_lays_33 E, oo_L_lays_36 E, oo_L_lays_37 E, trivial⟩
theorem ok_L_lays_39 {Γ : jΓ} {Q : jPost} {LL : Nat} {xs : Nat → Int32} (E : E_L_lays LL xs Γ Q) : jSS Γ Q 39 (sg_L_lays_39 LL xs) := ⟨oo_L_lays_39 E, oo_L_lays_41 E, oo_L_lays_42 E, oo_L_lays_45 E, oo_L_lays_46 E, oo_L_lays_47 E, oo_L_lays_49 E, oo_L_lays_50 E, oo_L_lays_51 E, oo_L_lays_52 E, oo_L_lays_54 E, oo_L_lays_55 E, oo_L_lays_58 E, oo_L_lays_60 E, oo_L_lays_61 E, trivial⟩
theorem ok_L_lays_63 {Γ : jΓ} {Q : jPost} {LL : Nat} {xs : Nat → Int32} (E : E_L_lays LL xs Γ Q) : jSS Γ Q 63 (sg_L_lays_63 LL xs) := ⟨oo_L_lays_63 E, oo_L_lays_65 E, oo_L_lays_66 E, oo_L_lays_67 E, oo_L_lays_70 E, oo_L_lays_72 E, trivial⟩
theorem ok_L_lays_75 {Γ : jΓ} {Q : jPost} {LL : Nat} {xs : Nat → Int32} (E : E_L_lays LL xs Γ Q) : jSS Γ Q 75 (sg_L_lays_75 LL xs) := ⟨oo_L_lays_75 E, oo_L_lays_77 E, oo_L_lays_78 E, oo_L_lays_79 E, oo_L_lays_80 E, oo_L_lays_83 E, oo_L_lays_85 E, trivial⟩
theorem ok_L_lays_88 {Γ : jΓ} {Q : jPost} {LL : Nat} {xs : Nat → Int32} (E : E_L_lays LL xs Γ Q) : jSS Γ Q 88 (sg_L_lays_88 LL xs) := ⟨oo_L_lays_88 E, oo_L_lays_90 E, oo_L_lays_91 E, oo_L_lays_92 E, oo_L_lays_93 E, oo_L_lays_96 E, oo_L_lays_98 E, trivial⟩
theorem ok_L_lays_101 {Γ : jΓ} {Q : jPost} {LL : Nat} {xs : Nat → Int32} (E : E_L_lays LL xs Γ Q) : jSS Γ Q 101 (sg_L_lays_101 LL xs) := ⟨oo_L_lays_101 E, oo_L_lays_103 E, oo_L_lays_105 E, oo_L_lays_106 E, oo_L_lays_107 E, oo_L_lays_110 E, oo_L_lays_112 E, trivial⟩
theorem ok_L_lays_115 {Γ : jΓ} {Q : jPost} {LL : Nat} {xs : Nat → Int32} (E : E_L_lays LL xs Γ Q) : jSS Γ Q 115 (sg_L_lays_115 LL xs) := ⟨oo_L_lays_115 E, oo_L_lays_116 E, oo_L_lays_119 E, oo_L_lays_121 E, trivial⟩
theorem ok_L_lays_124 {Γ : jΓ} {Q : jPost} {LL : Nat} {xs : Nat → Int32} (E : E_L_lays LL xs Γ Q) : jSS Γ Q 124 (sg_L_lays_124 LL xs) := ⟨oo_L_lays_124 E, oo_L_lays_126 E, oo_L_lays_128 E, oo_L_lays_129 E, oo_L_lays_131 E, oo_L_lays_134 E, oo_L_lays_136 E, trivial⟩
theorem ok_L_lays_139 {Γ : jΓ} {Q : jPost} {LL : Nat} {xs : Nat → Int32} (E : E_L_lays LL xs Γ Q) : jSS Γ Q 139 (sg_L_lays_139 LL xs) := ⟨oo_L_lays_139 E, trivial⟩
theorem ok_L_lays_141 {Γ : jΓ} {Q : jPost} {LL : Nat} {xs : Nat → Int32} (E : E_L_lays LL xs Γ Q) : jSS Γ Q 141 (sg_L_lays_141 LL xs) := ⟨oo_L_lays_141 E, oo_L_lays_143 E, oo_L_lays_144 E, oo_L_lays_146 E, oo_L_lays_147 E, trivial⟩
theorem ok_L_lays_148 {Γ : jΓ} {Q : jPost} {LL : Nat} {xs : Nat → Int32} (E : E_L_lays LL xs Γ Q) : jSS Γ Q 148 (sg_L_lays_148 LL xs) := ⟨oo_L_lays_148 E, trivial⟩
theorem ok_L_lays_151 {Γ : jΓ} {Q : jPost} {LL : Nat} {xs : Nat → Int32} (E : E_L_lays LL xs Γ Q) : jSS Γ Q 151 (sg_L_lays_151 LL xs) := ⟨oo_L_lays_151 E, oo_L_lays_153 E, oo_L_lays_156 E, trivial⟩
theorem ok_L_lays_159 {Γ : jΓ} {Q : jPost} {LL : Nat} {xs : Nat → Int32} (E : E_L_lays LL xs Γ Q) : jSS Γ Q 159 (sg_L_lays_159 LL xs) := ⟨oo_L_lays_159 E, oo_L_lays_160 E, trivial⟩
theorem ok_L_lays_162 {Γ : jΓ} {Q : jPost} {LL : Nat} {xs : Nat → Int32} (E : E_L_lays LL xs Γ Q) : jSS Γ Q 162 (sg_L_lays_162 LL xs) := ⟨oo_L_lays_162 E, trivial⟩
theorem ok_L_lays_165 {Γ : jΓ} {Q : jPost} {LL : Nat} {xs : Nat → Int32} (E : E_L_lays LL xs Γ Q) : jSS Γ Q 165 (sg_L_lays_165 LL xs) := ⟨oo_L_lays_165 E, oo_L_lays_167 E, oo_L_lays_170 E, trivial⟩
theorem ok_L_lays_173 {Γ : jΓ} {Q : jPost} {LL : Nat} {xs : Nat → Int32} (E : E_L_lays LL xs Γ Q) : jSS Γ Q 173 (sg_L_lays_173 LL xs) := ⟨oo_L_lays_173 E, oo_L_lays_174 E, oo_L_lays_175 E, oo_L_lays_177 E, oo_L_lays_180 E, oo_L_lays_181 E, oo_L_lays_182 E, oo_L_lays_183 E, oo_L_lays_185 E, oo_L_lays_186 E, trivial⟩
theorem ok_L_lays_188 {Γ : jΓ} {Q : jPost} {LL : Nat} {xs : Nat → Int32} (E : E_L_lays LL xs Γ Q) : jSS Γ Q 188 (sg_L_lays_188 LL xs) := ⟨oo_L_lays_188 E, oo_L_lays_190 E, oo_L_lays_192 E, oo_L_lays_195 E, oo_L_lays_196 E, oo_L_lays_198 E, oo_L_lays_200 E, oo_L_lays_201 E, oo_L_lays_204 E, trivial⟩
theorem ok_L_lays_206 {Γ : jΓ} {Q : jPost} {LL : Nat} {xs : Nat → Int32} (E : E_L_lays LL xs Γ Q) : jSS Γ Q 206 (sg_L_lays_206 LL xs) := ⟨oo_L_lays_206 E, oo_L_lays_207 E, oo_L_lays_209 E, oo_L_lays_211 E, oo_L_lays_212 E, oo_L_lays_214 E, oo_L_lays_215 E, oo_L_lays_217 E, oo_L_lays_218 E, oo_L_lays_219 E, oo_L_lays_221 E, oo_L_lays_222 E, oo_L_lays_224 E, oo_L_lays_225 E, oo_L_lays_227 E, oo_L_lays_229 E, oo_L_lays_230 E, oo_L_lays_231 E, oo_L_lays_234 E, oo_L_lays_235 E, trivial⟩
theorem ok_L_lays_238 {Γ : jΓ} {Q : jPost} {LL : Nat} {xs : Nat → Int32} (E : E_L_lays LL xs Γ Q) : jSS Γ Q 238 (sg_L_lays_238 LL xs) := ⟨oo_L_lays_238 E, oo_L_lays_240 E, oo_L_lays_241 E, oo_L_lays_243 E, oo_L_lays_245 E, oo_L_lays_246 E, oo_L_lays_247 E, trivial⟩
theorem ok_L_lays_240 {Γ : jΓ} {Q : jPost} {LL : Nat} {xs : Nat → Int32} (E : E_L_lays LL xs Γ Q) : jSS Γ Q 240 (sg_L_lays_240 LL xs) := ⟨oo_L_lays_240 E, oo_L_lays_241 E, oo_L_lays_243 E, oo_L_lays_245 E, oo_L_lays_246 E, oo_L_lays_247 E, trivial⟩
theorem ok_L_lays_248 {Γ : jΓ} {Q : jPost} {LL : Nat} {xs : Nat → Int32} (E : E_L_lays LL xs Γ Q) : jSS Γ Q 248 (sg_L_lays_248 LL xs) := ⟨oo_L_lays_248 E, trivial⟩
theorem ok_L_lays_251 {Γ : jΓ} {Q : jPost} {LL : Nat} {xs : Nat → Int32} (E : E_L_lays LL xs Γ Q) : jSS Γ Q 251 (sg_L_lays_251 LL xs) := ⟨oo_L_lays_251 E, oo_L_lays_253 E, oo_L_lays_256 E, trivial⟩
theorem ok_L_lays_259 {Γ : jΓ} {Q : jPost} {LL : Nat} {xs : Nat → Int32} (E : E_L_lays LL xs Γ Q) : jSS Γ Q 259 (sg_L_lays_259 LL xs) := ⟨oo_L_lays_259 E, oo_L_lays_260 E, trivial⟩
theorem okc_L_lays {Γ : jΓ} {Q : jPost} {LL : Nat} {xs : Nat → Int32} (E : E_L_lays LL xs Γ Q) (t : Nat) : jSS Γ Q t (cd_L_lays LL xs t) := by
  unfold cd_L_lays
  split
  · exact ok_L_lays_75 E
  · exact ok_L_lays_88 E
  · exact ok_L_lays_101 E
  · exact ok_L_lays_115 E
  · exact ok_L_lays_124 E
  · exact ok_L_lays_139 E
  · exact ok_L_lays_159 E
  · exact ok_L_lays_238 E
  · exact ok_L_lays_240 E
  · exact ok_L_lays_259 E
  · trivial
theorem H_L_lays_0 {Γ : jΓ} {Q : jPost} {LL : Nat} {xs : Nat → Int32} (E : E_L_lays LL xs Γ Q) (n : Nat) (L : jL) (st : List Value) (K : List jK) (h : jM) (ce sl : Nat) (hw : jwp (cd_L_lays LL xs) (jG Γ) Q n (sg_L_lays_0 LL xs) 0 L st K h ce sl) : jG Γ 0 L st K h ce sl := jwp_ok (okc_L_lays E) n (sg_L_lays_0 LL xs) 0 (ok_L_lays_0 E) L st K h ce sl hw
theorem H_L_lays_22 {Γ : jΓ} {Q : jPost} {LL : Nat} {xs : Nat → Int32} (E : E_L_lays LL xs Γ Q) (n : Nat) (L : jL) (st : List Value) (K : List jK) (h : jM) (ce sl : Nat) (hw : jwp (cd_L_lays LL xs) (jG Γ) Q n (sg_L_lays_22 LL xs) 22 L st K h ce sl) : jG Γ 22 L st K h ce sl := jwp_ok (okc_L_lays E) n (sg_L_lays_22 LL xs) 22 (ok_L_lays_22 E) L st K h ce sl hw
theorem H_L_lays_25 {Γ : jΓ} {Q : jPost} {LL : Nat} {xs : Nat → Int32} (E : E_L_lays LL xs Γ Q) (n : Nat) (L : jL) (st : List Value) (K : List jK) (h : jM) (ce sl : Nat) (hw : jwp (cd_L_lays LL xs) (jG Γ) Q n (sg_L_lays_25 LL xs) 25 L st K h ce sl) : jG Γ 25 L st K h ce sl := jwp_ok (okc_L_lays E) n (sg_L_lays_25 LL xs) 25 (ok_L_lays_25 E) L st K h ce sl hw
theorem H_L_lays_30 {Γ : jΓ} {Q : jPost} {LL : Nat} {xs : Nat → Int32} (E : E_L_lays LL xs Γ Q) (n : Nat) (L : jL) (st : List Value) (K : List jK) (h : jM) (ce sl : Nat) (hw : jwp (cd_L_lays LL xs) (jG Γ) Q n (sg_L_lays_30 LL xs) 30 L st K h ce sl) : jG Γ 30 L st K h ce sl := jwp_ok (okc_L_lays E) n (sg_L_lays_30 LL xs) 30 (ok_L_lays_30 E) L st K h ce sl hw
theorem H_L_lays_39 {Γ : jΓ} {Q : jPost} {LL : Nat} {xs : Nat → Int32} (E : E_L_lays LL xs Γ Q) (n : Nat) (L : jL) (st : List Value) (K : List jK) (h : jM) (ce sl : Nat) (hw : jwp (cd_L_lays LL xs) (jG Γ) Q n (sg_L_lays_39 LL xs) 39 L st K h ce sl) : jG Γ 39 L st K h ce sl := jwp_ok (okc_L_lays E) n (sg_L_lays_39 LL xs) 39 (ok_L_lays_39 E) L st K h ce sl hw
theorem H_L_lays_63 {Γ : jΓ} {Q : jPost} {LL : Nat} {xs : Nat → Int32} (E : E_L_lays LL xs Γ Q) (n : Nat) (L : jL) (st : List Value) (K : List jK) (h : jM) (ce sl : Nat) (hw : jwp (cd_L_lays LL xs) (jG Γ) Q n (sg_L_lays_63 LL xs) 63 L st K h ce sl) : jG Γ 63 L st K h ce sl := jwp_ok (okc_L_lays E) n (sg_L_lays_63 LL xs) 63 (ok_L_lays_63 E) L st K h ce sl hw
theorem H_L_lays_141 {Γ : jΓ} {Q : jPost} {LL : Nat} {xs : Nat → Int32} (E : E_L_lays LL xs Γ Q) (n : Nat) (L : jL) (st : List Value) (K : List jK) (h : jM) (ce sl : Nat) (hw : jwp (cd_L_lays LL xs) (jG Γ) Q n (sg_L_lays_141 LL xs) 141 L st K h ce sl) : jG Γ 141 L st K h ce sl := jwp_ok (okc_L_lays E) n (sg_L_lays_141 LL xs) 141 (ok_L_lays_141 E) L st K h ce sl hw
theorem H_L_lays_148 {Γ : jΓ} {Q : jPost} {LL : Nat} {xs : Nat → Int32} (E : E_L_lays LL xs Γ Q) (n : Nat) (L : jL) (st : List Value) (K : List jK) (h : jM) (ce sl : Nat) (hw : jwp (cd_L_lays LL xs) (jG Γ) Q n (sg_L_lays_148 LL xs) 148 L st K h ce sl) : jG Γ 148 L st K h ce sl := jwp_ok (okc_L_lays E) n (sg_L_lays_148 LL xs) 148 (ok_L_lays_148 E) L st K h ce sl hw
theorem H_L_lays_151 {Γ : jΓ} {Q : jPost} {LL : Nat} {xs : Nat → Int32} (E : E_L_lays LL xs Γ Q) (n : Nat) (L : jL) (st : List Value) (K : List jK) (h : jM) (ce sl : Nat) (hw : jwp (cd_L_lays LL xs) (jG Γ) Q n (sg_L_lays_151 LL xs) 151 L st K h ce sl) : jG Γ 151 L st K h ce sl := jwp_ok (okc_L_lays E) n (sg_L_lays_151 LL xs) 151 (ok_L_lays_151 E) L st K h ce sl hw
theorem H_L_lays_162 {Γ : jΓ} {Q : jPost} {LL : Nat} {xs : Nat → Int32} (E : E_L_lays LL xs Γ Q) (n : Nat) (L : jL) (st : List Value) (K : List jK) (h : jM) (ce sl : Nat) (hw : jwp (cd_L_lays LL xs) (jG Γ) Q n (sg_L_lays_162 LL xs) 162 L st K h ce sl) : jG Γ 162 L st K h ce sl := jwp_ok (okc_L_lays E) n (sg_L_lays_162 LL xs) 162 (ok_L_lays_162 E) L st K h ce sl hw
theorem H_L_lays_165 {Γ : jΓ} {Q : jPost} {LL : Nat} {xs : Nat → Int32} (E : E_L_lays LL xs Γ Q) (n : Nat) (L : jL) (st : List Value) (K : List jK) (h : jM) (ce sl : Nat) (hw : jwp (cd_L_lays LL xs) (jG Γ) Q n (sg_L_lays_165 LL xs) 165 L st K h ce sl) : jG Γ 165 L st K h ce sl := jwp_ok (okc_L_lays E) n (sg_L_lays_165 LL xs) 165 (ok_L_lays_165 E) L st K h ce sl hw
theorem H_L_lays_173 {Γ : jΓ} {Q : jPost} {LL : Nat} {xs : Nat → Int32} (E : E_L_lays LL xs Γ Q) (n : Nat) (L : jL) (st : List Value) (K : List jK) (h : jM) (ce sl : Nat) (hw : jwp (cd_L_lays LL xs) (jG Γ) Q n (sg_L_lays_173 LL xs) 173 L st K h ce sl) : jG Γ 173 L st K h ce sl := jwp_ok (okc_L_lays E) n (sg_L_lays_173 LL xs) 173 (ok_L_lays_173 E) L st K h ce sl hw
theorem H_L_lays_188 {Γ : jΓ} {Q : jPost} {LL : Nat} {xs : Nat → Int32} (E : E_L_lays LL xs Γ Q) (n : Nat) (L : jL) (st : List Value) (K : List jK) (h : jM) (ce sl : Nat) (hw : jwp (cd_L_lays LL xs) (jG Γ) Q n (sg_L_lays_188 LL xs) 188 L st K h ce sl) : jG Γ 188 L st K h ce sl := jwp_ok (okc_L_lays E) n (sg_L_lays_188 LL xs) 188 (ok_L_lays_188 E) L st K h ce sl hw
theorem H_L_lays_206 {Γ : jΓ} {Q : jPost} {LL : Nat} {xs : Nat → Int32} (E : E_L_lays LL xs Γ Q) (n : Nat) (L : jL) (st : List Value) (K : List jK) (h : jM) (ce sl : Nat) (hw : jwp (cd_L_lays LL xs) (jG Γ) Q n (sg_L_lays_206 LL xs) 206 L st K h ce sl) : jG Γ 206 L st K h ce sl := jwp_ok (okc_L_lays E) n (sg_L_lays_206 LL xs) 206 (ok_L_lays_206 E) L st K h ce sl hw
theorem H_L_lays_248 {Γ : jΓ} {Q : jPost} {LL : Nat} {xs : Nat → Int32} (E : E_L_lays LL xs Γ Q) (n : Nat) (L : jL) (st : List Value) (K : List jK) (h : jM) (ce sl : Nat) (hw : jwp (cd_L_lays LL xs) (jG Γ) Q n (sg_L_lays_248 LL xs) 248 L st K h ce sl) : jG Γ 248 L st K h ce sl := jwp_ok (okc_L_lays E) n (sg_L_lays_248 LL xs) 248 (ok_L_lays_248 E) L st K h ce sl hw
theorem H_L_lays_251 {Γ : jΓ} {Q : jPost} {LL : Nat} {xs : Nat → Int32} (E : E_L_lays LL xs Γ Q) (n : Nat) (L : jL) (st : List Value) (K : List jK) (h : jM) (ce sl : Nat) (hw : jwp (cd_L_lays LL xs) (jG Γ) Q n (sg_L_lays_251 LL xs) 251 L st K h ce sl) : jG Γ 251 L st K h ce sl := jwp_ok (okc_L_lays E) n (sg_L_lays_251 LL xs) 251 (ok_L_lays_251 E) L st K h ce sl hw

theorem kxo0 {K : List jK} (hX : jX K) : job K 0 = some 6 := kxo_0 hX
theorem nI_tb {a b : Nat} (ha : a < 2147483648) (hb : b < 2147483648) (hab : ¬ a ≤ b) : ¬ nI a ≤ nI b := by
  rw [nI_leI ha hb]; exact hab
theorem ge0 {a : Nat} (ha : a < 2147483648) : 0 ≤ (nI a).toInt := by rw [nI_toInt ha]; omega
theorem ly_rem {c k : Nat} (h : c < 2147483648) (hk : 0 < k) (hk2 : k < 2147483648) : nI c - nI c / nI k * nI k = nI (c % k) := jrem h hk hk2
/-- the ants -/
theorem lays_ants {Γ : jΓ} {Q : jPost} {LL : Nat} {xs : Nat → Int32} (E : E_L_lays LL xs Γ Q) {K : List jK} {h : jM} (hX : jX K) (ht : 0 ≤ (h 4 2).toInt ∧ (h 4 2).toInt ≤ 12) (hT : Q (some (.int (nI (lyN LL xs)))) K (lyM LL xs h)) : ∀ m a, a + m = lyA LL xs → jG Γ 188 [some (.ref 0), some (.ref 2000), some (.int (lyK LL xs)), some (.int (nI (lyN LL xs))), none, some (.int (nI (lyA LL xs))), some (.int (nI a)), none, none, none] [] K (antsM LL xs h a) 0 0 := by
  have hA : lyA LL xs ≤ 4 := by unfold lyA; omega
  intro m
  induction m with
  | zero =>
    intro a ha
    have e : a = lyA LL xs := by omega
    subst e
    refine H_L_lays_188 E 60 _ _ _ _ _ _ ?_
    have c : nI (lyA LL xs) ≤ nI (lyA LL xs) := Int32.le_refl _
    simp only [sg_L_lays_0, sg_L_lays_22, sg_L_lays_25, sg_L_lays_30, sg_L_lays_39, sg_L_lays_63, sg_L_lays_75, sg_L_lays_88, sg_L_lays_101, sg_L_lays_115, sg_L_lays_124, sg_L_lays_139, sg_L_lays_141, sg_L_lays_148, sg_L_lays_151, sg_L_lays_159, sg_L_lays_162, sg_L_lays_165, sg_L_lays_173, sg_L_lays_188, sg_L_lays_206, sg_L_lays_238, sg_L_lays_240, sg_L_lays_248, sg_L_lays_251, sg_L_lays_259, cd_L_lays, jwp, o_ic, o_lc, o_iload, o_lload, o_aload, o_istore, o_lstore, o_astore, o_iinc, o_pop, o_dup, o_dup2, o_iadd, o_isub, o_imul, o_iand, o_ior, o_ishl, o_ladd, o_lmul, o_land, o_lor, o_idiv, o_irem, o_ineg, o_i2l, o_l2i, o_i2b, o_i2s, o_lushr, o_lshr, o_lshl, o_lcmp, o_ifeq, o_ifne, o_iflt, o_ifge, o_ifgt, o_ifle, o_iceq, o_icne, o_iclt, o_icge, o_icgt, o_icle, o_goto, o_tsw, jsw, o_lsw, jlk, o_getf, o_putf, o_putz, o_iald, o_zald, o_iast, o_zast, o_aald, o_alen, o_gets, o_zld, o_zlen, o_cpy, o_call, o_callV, o_ireti, o_iretz, o_lret, o_vret, jg, js, jkp, jkill, jsp, jcs, jfw, jov, Value.category, Option.toList_some, Option.toList_none, List.nil_append, List.cons_append, List.append_nil, Nat.reduceAdd, true_and, and_true, jb0, jb01, jb1, jem, true_or, or_true, Classical.not_not, forall_const, List.length_cons, List.length_nil, Nat.reduceLeDiff, Nat.zero_le, Nat.reduceLT, o_slen, o_sld, o_ishr, and_self, not_true_eq_false, not_false_eq_true, false_imp_iff, true_imp_iff, implies_true, and_false, false_and, or_false, false_or, T_L_cell, eq_self, c]
    exact hT
  | succ m ih =>
    intro a ha
    have s251 : ∀ w v, jG Γ 251 [some (.ref 0), some (.ref 2000), some (.int (lyK LL xs)), some (.int (nI (lyN LL xs))), none, some (.int (nI (lyA LL xs))), some (.int (nI a)), some (.int (w)), none, none] [.int v] K (antM (antsM LL xs h a) (rmI (lyW LL xs a) 15 - 7) (rmI (lyW LL xs a >>> (4 &&& 31)) 15 - 7) (rmI (lyW LL xs a >>> (8 &&& 31)) (if lyK LL xs = 0 then 4 else 6)) (lyW LL xs a >>> (12 &&& 31) &&& 3)) 0 0 := by
      intro w v
      refine H_L_lays_251 E 60 _ _ _ _ _ _ ?_
      simp only [sg_L_lays_0, sg_L_lays_22, sg_L_lays_25, sg_L_lays_30, sg_L_lays_39, sg_L_lays_63, sg_L_lays_75, sg_L_lays_88, sg_L_lays_101, sg_L_lays_115, sg_L_lays_124, sg_L_lays_139, sg_L_lays_141, sg_L_lays_148, sg_L_lays_151, sg_L_lays_159, sg_L_lays_162, sg_L_lays_165, sg_L_lays_173, sg_L_lays_188, sg_L_lays_206, sg_L_lays_238, sg_L_lays_240, sg_L_lays_248, sg_L_lays_251, sg_L_lays_259, cd_L_lays, jwp, o_ic, o_lc, o_iload, o_lload, o_aload, o_istore, o_lstore, o_astore, o_iinc, o_pop, o_dup, o_dup2, o_iadd, o_isub, o_imul, o_iand, o_ior, o_ishl, o_ladd, o_lmul, o_land, o_lor, o_idiv, o_irem, o_ineg, o_i2l, o_l2i, o_i2b, o_i2s, o_lushr, o_lshr, o_lshl, o_lcmp, o_ifeq, o_ifne, o_iflt, o_ifge, o_ifgt, o_ifle, o_iceq, o_icne, o_iclt, o_icge, o_icgt, o_icle, o_goto, o_tsw, jsw, o_lsw, jlk, o_getf, o_putf, o_putz, o_iald, o_zald, o_iast, o_zast, o_aald, o_alen, o_gets, o_zld, o_zlen, o_cpy, o_call, o_callV, o_ireti, o_iretz, o_lret, o_vret, jg, js, jkp, jkill, jsp, jcs, jfw, jov, Value.category, Option.toList_some, Option.toList_none, List.nil_append, List.cons_append, List.append_nil, Nat.reduceAdd, true_and, and_true, jb0, jb01, jb1, jem, true_or, or_true, Classical.not_not, forall_const, List.length_cons, List.length_nil, Nat.reduceLeDiff, Nat.zero_le, Nat.reduceLT, o_slen, o_sld, o_ishr, and_self, not_true_eq_false, not_false_eq_true, false_imp_iff, true_imp_iff, implies_true, and_false, false_and, or_false, false_or, T_L_cell, eq_self, nI_1]
      exact jG_fg (M := [some (.ref 0), some (.ref 2000), some (.int (lyK LL xs)), some (.int (nI (lyN LL xs))), none, some (.int (nI (lyA LL xs))), some (.int (nI (a + 1))), none, none, none]) ⟨Or.inr rfl, Or.inr rfl, Or.inr rfl, Or.inr rfl, Or.inr rfl, Or.inr rfl, Or.inr rfl, Or.inl rfl, Or.inl rfl, Or.inl rfl, trivial⟩ (ih (a + 1) (by omega))
    have s248 : jG Γ 248 [some (.ref 0), some (.ref 2000), some (.int (lyK LL xs)), some (.int (nI (lyN LL xs))), none, some (.int (nI (lyA LL xs))), some (.int (nI a)), some (.int (lyW LL xs a)), none, none] [.int (lyW LL xs a >>> (12 &&& 31) &&& 3), .int (rmI (lyW LL xs a >>> (8 &&& 31)) (if lyK LL xs = 0 then 4 else 6)), .int (rmI (lyW LL xs a >>> (4 &&& 31)) 15 - 7), .int (rmI (lyW LL xs a) 15 - 7), .ref 0] K (antsM LL xs h a) 0 0 := by
      refine H_L_lays_248 E 60 _ _ _ _ _ _ ?_
      simp only [sg_L_lays_0, sg_L_lays_22, sg_L_lays_25, sg_L_lays_30, sg_L_lays_39, sg_L_lays_63, sg_L_lays_75, sg_L_lays_88, sg_L_lays_101, sg_L_lays_115, sg_L_lays_124, sg_L_lays_139, sg_L_lays_141, sg_L_lays_148, sg_L_lays_151, sg_L_lays_159, sg_L_lays_162, sg_L_lays_165, sg_L_lays_173, sg_L_lays_188, sg_L_lays_206, sg_L_lays_238, sg_L_lays_240, sg_L_lays_248, sg_L_lays_251, sg_L_lays_259, cd_L_lays, jwp, o_ic, o_lc, o_iload, o_lload, o_aload, o_istore, o_lstore, o_astore, o_iinc, o_pop, o_dup, o_dup2, o_iadd, o_isub, o_imul, o_iand, o_ior, o_ishl, o_ladd, o_lmul, o_land, o_lor, o_idiv, o_irem, o_ineg, o_i2l, o_l2i, o_i2b, o_i2s, o_lushr, o_lshr, o_lshl, o_lcmp, o_ifeq, o_ifne, o_iflt, o_ifge, o_ifgt, o_ifle, o_iceq, o_icne, o_iclt, o_icge, o_icgt, o_icle, o_goto, o_tsw, jsw, o_lsw, jlk, o_getf, o_putf, o_putz, o_iald, o_zald, o_iast, o_zast, o_aald, o_alen, o_gets, o_zld, o_zlen, o_cpy, o_call, o_callV, o_ireti, o_iretz, o_lret, o_vret, jg, js, jkp, jkill, jsp, jcs, jfw, jov, Value.category, Option.toList_some, Option.toList_none, List.nil_append, List.cons_append, List.append_nil, Nat.reduceAdd, true_and, and_true, jb0, jb01, jb1, jem, true_or, or_true, Classical.not_not, forall_const, List.length_cons, List.length_nil, Nat.reduceLeDiff, Nat.zero_le, Nat.reduceLT, o_slen, o_sld, o_ishr, and_self, not_true_eq_false, not_false_eq_true, false_imp_iff, true_imp_iff, implies_true, and_false, false_and, or_false, false_or, T_L_cell, eq_self, kxo0 hX]
      obtain ⟨l0, l1, ⟨cnt, hc, l7, hv⟩, -⟩ := LV_ants (LL := LL) (xs := xs) ht a
      refine ant_D hX ?_ (fun v => ⟨rfl, ?_⟩)
      · rw [l7, nI_toInt (by omega)]; omega
      · exact s251 _ v
    have s206 : jG Γ 206 [some (.ref 0), some (.ref 2000), some (.int (lyK LL xs)), some (.int (nI (lyN LL xs))), none, some (.int (nI (lyA LL xs))), some (.int (nI a)), some (.int (lyW LL xs a)), none, none] [] K (antsM LL xs h a) 0 0 := by
      refine H_L_lays_206 E 60 _ _ _ _ _ _ ?_
      have n15 : ¬ (15 : Int32) = 0 := by decide
      have n4 : ¬ (4 : Int32) = 0 := by decide
      have n6 : ¬ (6 : Int32) = 0 := by decide
      by_cases c : lyK LL xs = 0
      · rw [if_pos c] at s248
        simp only [sg_L_lays_0, sg_L_lays_22, sg_L_lays_25, sg_L_lays_30, sg_L_lays_39, sg_L_lays_63, sg_L_lays_75, sg_L_lays_88, sg_L_lays_101, sg_L_lays_115, sg_L_lays_124, sg_L_lays_139, sg_L_lays_141, sg_L_lays_148, sg_L_lays_151, sg_L_lays_159, sg_L_lays_162, sg_L_lays_165, sg_L_lays_173, sg_L_lays_188, sg_L_lays_206, sg_L_lays_238, sg_L_lays_240, sg_L_lays_248, sg_L_lays_251, sg_L_lays_259, cd_L_lays, jwp, o_ic, o_lc, o_iload, o_lload, o_aload, o_istore, o_lstore, o_astore, o_iinc, o_pop, o_dup, o_dup2, o_iadd, o_isub, o_imul, o_iand, o_ior, o_ishl, o_ladd, o_lmul, o_land, o_lor, o_idiv, o_irem, o_ineg, o_i2l, o_l2i, o_i2b, o_i2s, o_lushr, o_lshr, o_lshl, o_lcmp, o_ifeq, o_ifne, o_iflt, o_ifge, o_ifgt, o_ifle, o_iceq, o_icne, o_iclt, o_icge, o_icgt, o_icle, o_goto, o_tsw, jsw, o_lsw, jlk, o_getf, o_putf, o_putz, o_iald, o_zald, o_iast, o_zast, o_aald, o_alen, o_gets, o_zld, o_zlen, o_cpy, o_call, o_callV, o_ireti, o_iretz, o_lret, o_vret, jg, js, jkp, jkill, jsp, jcs, jfw, jov, Value.category, Option.toList_some, Option.toList_none, List.nil_append, List.cons_append, List.append_nil, Nat.reduceAdd, true_and, and_true, jb0, jb01, jb1, jem, true_or, or_true, Classical.not_not, forall_const, List.length_cons, List.length_nil, Nat.reduceLeDiff, Nat.zero_le, Nat.reduceLT, o_slen, o_sld, o_ishr, and_self, not_true_eq_false, not_false_eq_true, false_imp_iff, true_imp_iff, implies_true, and_false, false_and, or_false, false_or, T_L_cell, eq_self, c, n15, n4, n6]
        rw [c] at s248
        exact s248
      · rw [if_neg c] at s248
        simp only [sg_L_lays_0, sg_L_lays_22, sg_L_lays_25, sg_L_lays_30, sg_L_lays_39, sg_L_lays_63, sg_L_lays_75, sg_L_lays_88, sg_L_lays_101, sg_L_lays_115, sg_L_lays_124, sg_L_lays_139, sg_L_lays_141, sg_L_lays_148, sg_L_lays_151, sg_L_lays_159, sg_L_lays_162, sg_L_lays_165, sg_L_lays_173, sg_L_lays_188, sg_L_lays_206, sg_L_lays_238, sg_L_lays_240, sg_L_lays_248, sg_L_lays_251, sg_L_lays_259, cd_L_lays, jwp, o_ic, o_lc, o_iload, o_lload, o_aload, o_istore, o_lstore, o_astore, o_iinc, o_pop, o_dup, o_dup2, o_iadd, o_isub, o_imul, o_iand, o_ior, o_ishl, o_ladd, o_lmul, o_land, o_lor, o_idiv, o_irem, o_ineg, o_i2l, o_l2i, o_i2b, o_i2s, o_lushr, o_lshr, o_lshl, o_lcmp, o_ifeq, o_ifne, o_iflt, o_ifge, o_ifgt, o_ifle, o_iceq, o_icne, o_iclt, o_icge, o_icgt, o_icle, o_goto, o_tsw, jsw, o_lsw, jlk, o_getf, o_putf, o_putz, o_iald, o_zald, o_iast, o_zast, o_aald, o_alen, o_gets, o_zld, o_zlen, o_cpy, o_call, o_callV, o_ireti, o_iretz, o_lret, o_vret, jg, js, jkp, jkill, jsp, jcs, jfw, jov, Value.category, Option.toList_some, Option.toList_none, List.nil_append, List.cons_append, List.append_nil, Nat.reduceAdd, true_and, and_true, jb0, jb01, jb1, jem, true_or, or_true, Classical.not_not, forall_const, List.length_cons, List.length_nil, Nat.reduceLeDiff, Nat.zero_le, Nat.reduceLT, o_slen, o_sld, o_ishr, and_self, not_true_eq_false, not_false_eq_true, false_imp_iff, true_imp_iff, implies_true, and_false, false_and, or_false, false_or, T_L_cell, eq_self, c, n15, n4, n6]
        exact s248
    refine H_L_lays_188 E 60 _ _ _ _ _ _ ?_
    have c : ¬ nI (lyA LL xs) ≤ nI a := nI_tb (by omega) (by omega) (by omega)
    simp only [sg_L_lays_0, sg_L_lays_22, sg_L_lays_25, sg_L_lays_30, sg_L_lays_39, sg_L_lays_63, sg_L_lays_75, sg_L_lays_88, sg_L_lays_101, sg_L_lays_115, sg_L_lays_124, sg_L_lays_139, sg_L_lays_141, sg_L_lays_148, sg_L_lays_151, sg_L_lays_159, sg_L_lays_162, sg_L_lays_165, sg_L_lays_173, sg_L_lays_188, sg_L_lays_206, sg_L_lays_238, sg_L_lays_240, sg_L_lays_248, sg_L_lays_251, sg_L_lays_259, cd_L_lays, jwp, o_ic, o_lc, o_iload, o_lload, o_aload, o_istore, o_lstore, o_astore, o_iinc, o_pop, o_dup, o_dup2, o_iadd, o_isub, o_imul, o_iand, o_ior, o_ishl, o_ladd, o_lmul, o_land, o_lor, o_idiv, o_irem, o_ineg, o_i2l, o_l2i, o_i2b, o_i2s, o_lushr, o_lshr, o_lshl, o_lcmp, o_ifeq, o_ifne, o_iflt, o_ifge, o_ifgt, o_ifle, o_iceq, o_icne, o_iclt, o_icge, o_icgt, o_icle, o_goto, o_tsw, jsw, o_lsw, jlk, o_getf, o_putf, o_putz, o_iald, o_zald, o_iast, o_zast, o_aald, o_alen, o_gets, o_zld, o_zlen, o_cpy, o_call, o_callV, o_ireti, o_iretz, o_lret, o_vret, jg, js, jkp, jkill, jsp, jcs, jfw, jov, Value.category, Option.toList_some, Option.toList_none, List.nil_append, List.cons_append, List.append_nil, Nat.reduceAdd, true_and, and_true, jb0, jb01, jb1, jem, true_or, or_true, Classical.not_not, forall_const, List.length_cons, List.length_nil, Nat.reduceLeDiff, Nat.zero_le, Nat.reduceLT, o_slen, o_sld, o_ishr, and_self, not_true_eq_false, not_false_eq_true, false_imp_iff, true_imp_iff, implies_true, and_false, false_and, or_false, false_or, T_L_cell, eq_self, c]
    refine ⟨?_, s206⟩
    rw [show (21 : Int32) = nI 21 from rfl, nI_add]
    exact ge0 (by omega)
theorem lays_173 {Γ : jΓ} {Q : jPost} {LL : Nat} {xs : Nat → Int32} (E : E_L_lays LL xs Γ Q) {K : List jK} {h : jM} (hX : jX K) (ht : 0 ≤ (h 4 2).toInt ∧ (h 4 2).toInt ≤ 12) (hT : Q (some (.int (nI (lyN LL xs)))) K (lyM LL xs h)) : jG Γ 173 [some (.ref 0), some (.ref 2000), some (.int (lyK LL xs)), some (.int (nI (lyN LL xs))), none, none, none, none, none, none] [] K (rulM LL xs h 4) 0 0 := by
  have s := lays_ants E hX ht hT (lyA LL xs) 0 (by omega)
  have e : (1 : Int32) + (nI (cellC LL xs 20) - nI (cellC LL xs 20) / 4 * 4) = nI (lyA LL xs) := by
    rw [show (4 : Int32) = nI 4 from rfl, ly_rem (cellC_lt _ _ _) (by decide) (by decide), show (1 : Int32) = nI 1 from rfl, nI_add]
    rfl
  have n4 : ¬ (4 : Int32) = 0 := by decide
  refine H_L_lays_173 E 60 _ _ _ _ _ _ ?_
  simp only [sg_L_lays_0, sg_L_lays_22, sg_L_lays_25, sg_L_lays_30, sg_L_lays_39, sg_L_lays_63, sg_L_lays_75, sg_L_lays_88, sg_L_lays_101, sg_L_lays_115, sg_L_lays_124, sg_L_lays_139, sg_L_lays_141, sg_L_lays_148, sg_L_lays_151, sg_L_lays_159, sg_L_lays_162, sg_L_lays_165, sg_L_lays_173, sg_L_lays_188, sg_L_lays_206, sg_L_lays_238, sg_L_lays_240, sg_L_lays_248, sg_L_lays_251, sg_L_lays_259, cd_L_lays, jwp, o_ic, o_lc, o_iload, o_lload, o_aload, o_istore, o_lstore, o_astore, o_iinc, o_pop, o_dup, o_dup2, o_iadd, o_isub, o_imul, o_iand, o_ior, o_ishl, o_ladd, o_lmul, o_land, o_lor, o_idiv, o_irem, o_ineg, o_i2l, o_l2i, o_i2b, o_i2s, o_lushr, o_lshr, o_lshl, o_lcmp, o_ifeq, o_ifne, o_iflt, o_ifge, o_ifgt, o_ifle, o_iceq, o_icne, o_iclt, o_icge, o_icgt, o_icle, o_goto, o_tsw, jsw, o_lsw, jlk, o_getf, o_putf, o_putz, o_iald, o_zald, o_iast, o_zast, o_aald, o_alen, o_gets, o_zld, o_zlen, o_cpy, o_call, o_callV, o_ireti, o_iretz, o_lret, o_vret, jg, js, jkp, jkill, jsp, jcs, jfw, jov, Value.category, Option.toList_some, Option.toList_none, List.nil_append, List.cons_append, List.append_nil, Nat.reduceAdd, true_and, and_true, jb0, jb01, jb1, jem, true_or, or_true, Classical.not_not, forall_const, List.length_cons, List.length_nil, Nat.reduceLeDiff, Nat.zero_le, Nat.reduceLT, o_slen, o_sld, o_ishr, and_self, not_true_eq_false, not_false_eq_true, false_imp_iff, true_imp_iff, implies_true, and_false, false_and, or_false, false_or, T_L_cell, eq_self, n4]
  rw [e]
  exact ⟨by decide, s⟩
/-- a rule's letters -/
theorem lays_row {Γ : jΓ} {Q : jPost} {LL : Nat} {xs : Nat → Int32} (E : E_L_lays LL xs Γ Q) {K : List jK} {h : jM} (hX : jX K) (ht : 0 ≤ (h 4 2).toInt ∧ (h 4 2).toInt ≤ 12) {r : Nat} (hr : r < 4) (hN : jG Γ 30 [some (.ref 0), some (.ref 2000), some (.int (lyK LL xs)), some (.int (nI (lyN LL xs))), none, some (.int (nI (r + 1))), none, none, none, none] [] K (rulM LL xs h (r + 1)) 0 0) : ∀ m k, k + m = lyN LL xs → jG Γ 39 [some (.ref 0), some (.ref 2000), some (.int (lyK LL xs)), some (.int (nI (lyN LL xs))), none, some (.int (nI r)), some (.int (nI k)), none, none, none] [] K (rowM LL xs r (rulM LL xs h r) k) 0 0 := by
  have hb := lyN_b LL xs
  intro m
  induction m with
  | zero =>
    intro k hk
    have e : k = lyN LL xs := by omega
    subst e
    have s165 : ∀ v, jG Γ 165 [some (.ref 0), some (.ref 2000), some (.int (lyK LL xs)), some (.int (nI (lyN LL xs))), none, some (.int (nI r)), some (.int (nI (lyN LL xs))), none, none, none] [.int v] K (rulM LL xs h (r + 1)) 0 0 := by
      intro v
      refine H_L_lays_165 E 60 _ _ _ _ _ _ ?_
      simp only [sg_L_lays_0, sg_L_lays_22, sg_L_lays_25, sg_L_lays_30, sg_L_lays_39, sg_L_lays_63, sg_L_lays_75, sg_L_lays_88, sg_L_lays_101, sg_L_lays_115, sg_L_lays_124, sg_L_lays_139, sg_L_lays_141, sg_L_lays_148, sg_L_lays_151, sg_L_lays_159, sg_L_lays_162, sg_L_lays_165, sg_L_lays_173, sg_L_lays_188, sg_L_lays_206, sg_L_lays_238, sg_L_lays_240, sg_L_lays_248, sg_L_lays_251, sg_L_lays_259, cd_L_lays, jwp, o_ic, o_lc, o_iload, o_lload, o_aload, o_istore, o_lstore, o_astore, o_iinc, o_pop, o_dup, o_dup2, o_iadd, o_isub, o_imul, o_iand, o_ior, o_ishl, o_ladd, o_lmul, o_land, o_lor, o_idiv, o_irem, o_ineg, o_i2l, o_l2i, o_i2b, o_i2s, o_lushr, o_lshr, o_lshl, o_lcmp, o_ifeq, o_ifne, o_iflt, o_ifge, o_ifgt, o_ifle, o_iceq, o_icne, o_iclt, o_icge, o_icgt, o_icle, o_goto, o_tsw, jsw, o_lsw, jlk, o_getf, o_putf, o_putz, o_iald, o_zald, o_iast, o_zast, o_aald, o_alen, o_gets, o_zld, o_zlen, o_cpy, o_call, o_callV, o_ireti, o_iretz, o_lret, o_vret, jg, js, jkp, jkill, jsp, jcs, jfw, jov, Value.category, Option.toList_some, Option.toList_none, List.nil_append, List.cons_append, List.append_nil, Nat.reduceAdd, true_and, and_true, jb0, jb01, jb1, jem, true_or, or_true, Classical.not_not, forall_const, List.length_cons, List.length_nil, Nat.reduceLeDiff, Nat.zero_le, Nat.reduceLT, o_slen, o_sld, o_ishr, and_self, not_true_eq_false, not_false_eq_true, false_imp_iff, true_imp_iff, implies_true, and_false, false_and, or_false, false_or, T_L_cell, eq_self, nI_1]
      exact jG_fg (M := [some (.ref 0), some (.ref 2000), some (.int (lyK LL xs)), some (.int (nI (lyN LL xs))), none, some (.int (nI (r + 1))), none, none, none, none]) ⟨Or.inr rfl, Or.inr rfl, Or.inr rfl, Or.inr rfl, Or.inr rfl, Or.inr rfl, Or.inl rfl, Or.inl rfl, Or.inl rfl, Or.inl rfl, trivial⟩ hN
    have s162 : jG Γ 162 [some (.ref 0), some (.ref 2000), some (.int (lyK LL xs)), some (.int (nI (lyN LL xs))), none, some (.int (nI r)), some (.int (nI (lyN LL xs))), none, none, none] [.int (nI r), .ref 0] K (rowM LL xs r (rulM LL xs h r) (lyN LL xs)) 0 0 := by
      refine H_L_lays_162 E 60 _ _ _ _ _ _ ?_
      simp only [sg_L_lays_0, sg_L_lays_22, sg_L_lays_25, sg_L_lays_30, sg_L_lays_39, sg_L_lays_63, sg_L_lays_75, sg_L_lays_88, sg_L_lays_101, sg_L_lays_115, sg_L_lays_124, sg_L_lays_139, sg_L_lays_141, sg_L_lays_148, sg_L_lays_151, sg_L_lays_159, sg_L_lays_162, sg_L_lays_165, sg_L_lays_173, sg_L_lays_188, sg_L_lays_206, sg_L_lays_238, sg_L_lays_240, sg_L_lays_248, sg_L_lays_251, sg_L_lays_259, cd_L_lays, jwp, o_ic, o_lc, o_iload, o_lload, o_aload, o_istore, o_lstore, o_astore, o_iinc, o_pop, o_dup, o_dup2, o_iadd, o_isub, o_imul, o_iand, o_ior, o_ishl, o_ladd, o_lmul, o_land, o_lor, o_idiv, o_irem, o_ineg, o_i2l, o_l2i, o_i2b, o_i2s, o_lushr, o_lshr, o_lshl, o_lcmp, o_ifeq, o_ifne, o_iflt, o_ifge, o_ifgt, o_ifle, o_iceq, o_icne, o_iclt, o_icge, o_icgt, o_icle, o_goto, o_tsw, jsw, o_lsw, jlk, o_getf, o_putf, o_putz, o_iald, o_zald, o_iast, o_zast, o_aald, o_alen, o_gets, o_zld, o_zlen, o_cpy, o_call, o_callV, o_ireti, o_iretz, o_lret, o_vret, jg, js, jkp, jkill, jsp, jcs, jfw, jov, Value.category, Option.toList_some, Option.toList_none, List.nil_append, List.cons_append, List.append_nil, Nat.reduceAdd, true_and, and_true, jb0, jb01, jb1, jem, true_or, or_true, Classical.not_not, forall_const, List.length_cons, List.length_nil, Nat.reduceLeDiff, Nat.zero_le, Nat.reduceLT, o_slen, o_sld, o_ishr, and_self, not_true_eq_false, not_false_eq_true, false_imp_iff, true_imp_iff, implies_true, and_false, false_and, or_false, false_or, T_L_cell, eq_self, kxo0 hX]
      have hL := LV_row (LL := LL) (xs := xs) (r := r) (LV_rulM (LL := LL) (xs := xs) ht r (by omega)) (lyN LL xs)
      exact rule_D hX hL.2.2.2.1 hr (fun v => ⟨rfl, s165 v⟩)
    refine H_L_lays_39 E 60 _ _ _ _ _ _ ?_
    have c : nI (lyN LL xs) ≤ nI (lyN LL xs) := Int32.le_refl _
    simp only [sg_L_lays_0, sg_L_lays_22, sg_L_lays_25, sg_L_lays_30, sg_L_lays_39, sg_L_lays_63, sg_L_lays_75, sg_L_lays_88, sg_L_lays_101, sg_L_lays_115, sg_L_lays_124, sg_L_lays_139, sg_L_lays_141, sg_L_lays_148, sg_L_lays_151, sg_L_lays_159, sg_L_lays_162, sg_L_lays_165, sg_L_lays_173, sg_L_lays_188, sg_L_lays_206, sg_L_lays_238, sg_L_lays_240, sg_L_lays_248, sg_L_lays_251, sg_L_lays_259, cd_L_lays, jwp, o_ic, o_lc, o_iload, o_lload, o_aload, o_istore, o_lstore, o_astore, o_iinc, o_pop, o_dup, o_dup2, o_iadd, o_isub, o_imul, o_iand, o_ior, o_ishl, o_ladd, o_lmul, o_land, o_lor, o_idiv, o_irem, o_ineg, o_i2l, o_l2i, o_i2b, o_i2s, o_lushr, o_lshr, o_lshl, o_lcmp, o_ifeq, o_ifne, o_iflt, o_ifge, o_ifgt, o_ifle, o_iceq, o_icne, o_iclt, o_icge, o_icgt, o_icle, o_goto, o_tsw, jsw, o_lsw, jlk, o_getf, o_putf, o_putz, o_iald, o_zald, o_iast, o_zast, o_aald, o_alen, o_gets, o_zld, o_zlen, o_cpy, o_call, o_callV, o_ireti, o_iretz, o_lret, o_vret, jg, js, jkp, jkill, jsp, jcs, jfw, jov, Value.category, Option.toList_some, Option.toList_none, List.nil_append, List.cons_append, List.append_nil, Nat.reduceAdd, true_and, and_true, jb0, jb01, jb1, jem, true_or, or_true, Classical.not_not, forall_const, List.length_cons, List.length_nil, Nat.reduceLeDiff, Nat.zero_le, Nat.reduceLT, o_slen, o_sld, o_ishr, and_self, not_true_eq_false, not_false_eq_true, false_imp_iff, true_imp_iff, implies_true, and_false, false_and, or_false, false_or, T_L_cell, eq_self, c]
    exact s162
  | succ m ih =>
    intro k hk
    have s151 : ∀ x c v, jG Γ 151 [some (.ref 0), some (.ref 2000), some (.int (lyK LL xs)), some (.int (nI (lyN LL xs))), none, some (.int (nI r)), some (.int (nI k)), some (.int (x)), some (.int (c)), none] [.int v] K (rowM LL xs r (rulM LL xs h r) (k + 1)) 0 0 := by
      intro x c v
      refine H_L_lays_151 E 60 _ _ _ _ _ _ ?_
      simp only [sg_L_lays_0, sg_L_lays_22, sg_L_lays_25, sg_L_lays_30, sg_L_lays_39, sg_L_lays_63, sg_L_lays_75, sg_L_lays_88, sg_L_lays_101, sg_L_lays_115, sg_L_lays_124, sg_L_lays_139, sg_L_lays_141, sg_L_lays_148, sg_L_lays_151, sg_L_lays_159, sg_L_lays_162, sg_L_lays_165, sg_L_lays_173, sg_L_lays_188, sg_L_lays_206, sg_L_lays_238, sg_L_lays_240, sg_L_lays_248, sg_L_lays_251, sg_L_lays_259, cd_L_lays, jwp, o_ic, o_lc, o_iload, o_lload, o_aload, o_istore, o_lstore, o_astore, o_iinc, o_pop, o_dup, o_dup2, o_iadd, o_isub, o_imul, o_iand, o_ior, o_ishl, o_ladd, o_lmul, o_land, o_lor, o_idiv, o_irem, o_ineg, o_i2l, o_l2i, o_i2b, o_i2s, o_lushr, o_lshr, o_lshl, o_lcmp, o_ifeq, o_ifne, o_iflt, o_ifge, o_ifgt, o_ifle, o_iceq, o_icne, o_iclt, o_icge, o_icgt, o_icle, o_goto, o_tsw, jsw, o_lsw, jlk, o_getf, o_putf, o_putz, o_iald, o_zald, o_iast, o_zast, o_aald, o_alen, o_gets, o_zld, o_zlen, o_cpy, o_call, o_callV, o_ireti, o_iretz, o_lret, o_vret, jg, js, jkp, jkill, jsp, jcs, jfw, jov, Value.category, Option.toList_some, Option.toList_none, List.nil_append, List.cons_append, List.append_nil, Nat.reduceAdd, true_and, and_true, jb0, jb01, jb1, jem, true_or, or_true, Classical.not_not, forall_const, List.length_cons, List.length_nil, Nat.reduceLeDiff, Nat.zero_le, Nat.reduceLT, o_slen, o_sld, o_ishr, and_self, not_true_eq_false, not_false_eq_true, false_imp_iff, true_imp_iff, implies_true, and_false, false_and, or_false, false_or, T_L_cell, eq_self, nI_1]
      exact jG_fg (M := [some (.ref 0), some (.ref 2000), some (.int (lyK LL xs)), some (.int (nI (lyN LL xs))), none, some (.int (nI r)), some (.int (nI (k + 1))), none, none, none]) ⟨Or.inr rfl, Or.inr rfl, Or.inr rfl, Or.inr rfl, Or.inr rfl, Or.inr rfl, Or.inr rfl, Or.inl rfl, Or.inl rfl, Or.inl rfl, trivial⟩ (ih (k + 1) (by omega))
    have s148 : ∀ x c, c = ltr (lyK LL xs) (lyX LL xs r k) → jG Γ 148 [some (.ref 0), some (.ref 2000), some (.int (lyK LL xs)), some (.int (nI (lyN LL xs))), none, some (.int (nI r)), some (.int (nI k)), some (.int (x)), some (.int (c)), none] [.int 1, .long c.toInt64, .ref 0] K (rowM LL xs r (rulM LL xs h r) k) 0 0 := by
      intro x c hc
      subst hc
      refine H_L_lays_148 E 60 _ _ _ _ _ _ ?_
      simp only [sg_L_lays_0, sg_L_lays_22, sg_L_lays_25, sg_L_lays_30, sg_L_lays_39, sg_L_lays_63, sg_L_lays_75, sg_L_lays_88, sg_L_lays_101, sg_L_lays_115, sg_L_lays_124, sg_L_lays_139, sg_L_lays_141, sg_L_lays_148, sg_L_lays_151, sg_L_lays_159, sg_L_lays_162, sg_L_lays_165, sg_L_lays_173, sg_L_lays_188, sg_L_lays_206, sg_L_lays_238, sg_L_lays_240, sg_L_lays_248, sg_L_lays_251, sg_L_lays_259, cd_L_lays, jwp, o_ic, o_lc, o_iload, o_lload, o_aload, o_istore, o_lstore, o_astore, o_iinc, o_pop, o_dup, o_dup2, o_iadd, o_isub, o_imul, o_iand, o_ior, o_ishl, o_ladd, o_lmul, o_land, o_lor, o_idiv, o_irem, o_ineg, o_i2l, o_l2i, o_i2b, o_i2s, o_lushr, o_lshr, o_lshl, o_lcmp, o_ifeq, o_ifne, o_iflt, o_ifge, o_ifgt, o_ifle, o_iceq, o_icne, o_iclt, o_icge, o_icgt, o_icle, o_goto, o_tsw, jsw, o_lsw, jlk, o_getf, o_putf, o_putz, o_iald, o_zald, o_iast, o_zast, o_aald, o_alen, o_gets, o_zld, o_zlen, o_cpy, o_call, o_callV, o_ireti, o_iretz, o_lret, o_vret, jg, js, jkp, jkill, jsp, jcs, jfw, jov, Value.category, Option.toList_some, Option.toList_none, List.nil_append, List.cons_append, List.append_nil, Nat.reduceAdd, true_and, and_true, jb0, jb01, jb1, jem, true_or, or_true, Classical.not_not, forall_const, List.length_cons, List.length_nil, Nat.reduceLeDiff, Nat.zero_le, Nat.reduceLT, o_slen, o_sld, o_ishr, and_self, not_true_eq_false, not_false_eq_true, false_imp_iff, true_imp_iff, implies_true, and_false, false_and, or_false, false_or, T_L_cell, eq_self, kxo0 hX]
      have hL := LV_row (LL := LL) (xs := xs) (r := r) (LV_rulM (LL := LL) (xs := xs) ht r (by omega)) k
      exact type_D hX hL.2.2.2.1 (fun v => ⟨rfl, s151 _ _ v⟩)
    have s141 : ∀ x c, c = ltr (lyK LL xs) (lyX LL xs r k) → jG Γ 141 [some (.ref 0), some (.ref 2000), some (.int (lyK LL xs)), some (.int (nI (lyN LL xs))), none, some (.int (nI r)), some (.int (nI k)), some (.int (x)), none, none] [.int c] K (rowM LL xs r (rulM LL xs h r) k) 0 0 := by
      intro x c hc
      refine H_L_lays_141 E 60 _ _ _ _ _ _ ?_
      simp only [sg_L_lays_0, sg_L_lays_22, sg_L_lays_25, sg_L_lays_30, sg_L_lays_39, sg_L_lays_63, sg_L_lays_75, sg_L_lays_88, sg_L_lays_101, sg_L_lays_115, sg_L_lays_124, sg_L_lays_139, sg_L_lays_141, sg_L_lays_148, sg_L_lays_151, sg_L_lays_159, sg_L_lays_162, sg_L_lays_165, sg_L_lays_173, sg_L_lays_188, sg_L_lays_206, sg_L_lays_238, sg_L_lays_240, sg_L_lays_248, sg_L_lays_251, sg_L_lays_259, cd_L_lays, jwp, o_ic, o_lc, o_iload, o_lload, o_aload, o_istore, o_lstore, o_astore, o_iinc, o_pop, o_dup, o_dup2, o_iadd, o_isub, o_imul, o_iand, o_ior, o_ishl, o_ladd, o_lmul, o_land, o_lor, o_idiv, o_irem, o_ineg, o_i2l, o_l2i, o_i2b, o_i2s, o_lushr, o_lshr, o_lshl, o_lcmp, o_ifeq, o_ifne, o_iflt, o_ifge, o_ifgt, o_ifle, o_iceq, o_icne, o_iclt, o_icge, o_icgt, o_icle, o_goto, o_tsw, jsw, o_lsw, jlk, o_getf, o_putf, o_putz, o_iald, o_zald, o_iast, o_zast, o_aald, o_alen, o_gets, o_zld, o_zlen, o_cpy, o_call, o_callV, o_ireti, o_iretz, o_lret, o_vret, jg, js, jkp, jkill, jsp, jcs, jfw, jov, Value.category, Option.toList_some, Option.toList_none, List.nil_append, List.cons_append, List.append_nil, Nat.reduceAdd, true_and, and_true, jb0, jb01, jb1, jem, true_or, or_true, Classical.not_not, forall_const, List.length_cons, List.length_nil, Nat.reduceLeDiff, Nat.zero_le, Nat.reduceLT, o_slen, o_sld, o_ishr, and_self, not_true_eq_false, not_false_eq_true, false_imp_iff, true_imp_iff, implies_true, and_false, false_and, or_false, false_or, T_L_cell, eq_self]
      exact s148 x c hc
    have s63 : jG Γ 63 [some (.ref 0), some (.ref 2000), some (.int (lyK LL xs)), some (.int (nI (lyN LL xs))), none, some (.int (nI r)), some (.int (nI k)), some (.int (lyX LL xs r k)), none, none] [] K (rowM LL xs r (rulM LL xs h r) k) 0 0 := by
      refine H_L_lays_63 E 60 _ _ _ _ _ _ ?_
      have s := s141 (lyX LL xs r k)
      generalize lyX LL xs r k = x at s ⊢
      generalize lyK LL xs = kd at s ⊢
      have n4 : ¬ (4 : Int32) = 0 := by decide
      have n8 : ¬ (8 : Int32) = 0 := by decide
      have n16 : ¬ (16 : Int32) = 0 := by decide
      unfold ltr rmI at s
      simp only [sg_L_lays_0, sg_L_lays_22, sg_L_lays_25, sg_L_lays_30, sg_L_lays_39, sg_L_lays_63, sg_L_lays_75, sg_L_lays_88, sg_L_lays_101, sg_L_lays_115, sg_L_lays_124, sg_L_lays_139, sg_L_lays_141, sg_L_lays_148, sg_L_lays_151, sg_L_lays_159, sg_L_lays_162, sg_L_lays_165, sg_L_lays_173, sg_L_lays_188, sg_L_lays_206, sg_L_lays_238, sg_L_lays_240, sg_L_lays_248, sg_L_lays_251, sg_L_lays_259, cd_L_lays, jwp, o_ic, o_lc, o_iload, o_lload, o_aload, o_istore, o_lstore, o_astore, o_iinc, o_pop, o_dup, o_dup2, o_iadd, o_isub, o_imul, o_iand, o_ior, o_ishl, o_ladd, o_lmul, o_land, o_lor, o_idiv, o_irem, o_ineg, o_i2l, o_l2i, o_i2b, o_i2s, o_lushr, o_lshr, o_lshl, o_lcmp, o_ifeq, o_ifne, o_iflt, o_ifge, o_ifgt, o_ifle, o_iceq, o_icne, o_iclt, o_icge, o_icgt, o_icle, o_goto, o_tsw, jsw, o_lsw, jlk, o_getf, o_putf, o_putz, o_iald, o_zald, o_iast, o_zast, o_aald, o_alen, o_gets, o_zld, o_zlen, o_cpy, o_call, o_callV, o_ireti, o_iretz, o_lret, o_vret, jg, js, jkp, jkill, jsp, jcs, jfw, jov, Value.category, Option.toList_some, Option.toList_none, List.nil_append, List.cons_append, List.append_nil, Nat.reduceAdd, true_and, and_true, jb0, jb01, jb1, jem, true_or, or_true, Classical.not_not, forall_const, List.length_cons, List.length_nil, Nat.reduceLeDiff, Nat.zero_le, Nat.reduceLT, o_slen, o_sld, o_ishr, and_self, not_true_eq_false, not_false_eq_true, false_imp_iff, true_imp_iff, implies_true, and_false, false_and, or_false, false_or, T_L_cell, eq_self, n4, n8, n16]
      refine ⟨fun c1 => ⟨fun c2 => ⟨fun c3 => ⟨fun c4 => ⟨fun c5 => ⟨fun c6 => ?_, fun c6 => ?_⟩, fun c5 => ?_⟩, fun c4 => ?_⟩, fun c3 => ?_⟩, fun c2 => ?_⟩, fun c1 => ?_⟩
      · exact s 77 (by rw [if_neg c1, if_neg c2, if_neg c3, if_neg c4, if_neg c5, if_neg c6])
      · exact s 83 (by rw [if_neg c1, if_neg c2, if_neg c3, if_neg c4, if_neg c5, if_pos c6])
      · exact s 82 (by rw [if_neg c1, if_neg c2, if_neg c3, if_neg c4, if_pos c5])
      · exact s 85 (by rw [if_neg c1, if_neg c2, if_neg c3, if_pos c4])
      · exact s 76 (by rw [if_neg c1, if_neg c2, if_pos c3])
      · exact s 82 (by rw [if_neg c1, if_pos c2])
      · exact s 78 (by rw [if_pos c1])
    refine H_L_lays_39 E 60 _ _ _ _ _ _ ?_
    have c : ¬ nI (lyN LL xs) ≤ nI k := nI_tb (by omega) (by omega) (by omega)
    simp only [sg_L_lays_0, sg_L_lays_22, sg_L_lays_25, sg_L_lays_30, sg_L_lays_39, sg_L_lays_63, sg_L_lays_75, sg_L_lays_88, sg_L_lays_101, sg_L_lays_115, sg_L_lays_124, sg_L_lays_139, sg_L_lays_141, sg_L_lays_148, sg_L_lays_151, sg_L_lays_159, sg_L_lays_162, sg_L_lays_165, sg_L_lays_173, sg_L_lays_188, sg_L_lays_206, sg_L_lays_238, sg_L_lays_240, sg_L_lays_248, sg_L_lays_251, sg_L_lays_259, cd_L_lays, jwp, o_ic, o_lc, o_iload, o_lload, o_aload, o_istore, o_lstore, o_astore, o_iinc, o_pop, o_dup, o_dup2, o_iadd, o_isub, o_imul, o_iand, o_ior, o_ishl, o_ladd, o_lmul, o_land, o_lor, o_idiv, o_irem, o_ineg, o_i2l, o_l2i, o_i2b, o_i2s, o_lushr, o_lshr, o_lshl, o_lcmp, o_ifeq, o_ifne, o_iflt, o_ifge, o_ifgt, o_ifle, o_iceq, o_icne, o_iclt, o_icge, o_icgt, o_icle, o_goto, o_tsw, jsw, o_lsw, jlk, o_getf, o_putf, o_putz, o_iald, o_zald, o_iast, o_zast, o_aald, o_alen, o_gets, o_zld, o_zlen, o_cpy, o_call, o_callV, o_ireti, o_iretz, o_lret, o_vret, jg, js, jkp, jkill, jsp, jcs, jfw, jov, Value.category, Option.toList_some, Option.toList_none, List.nil_append, List.cons_append, List.append_nil, Nat.reduceAdd, true_and, and_true, jb0, jb01, jb1, jem, true_or, or_true, Classical.not_not, forall_const, List.length_cons, List.length_nil, Nat.reduceLeDiff, Nat.zero_le, Nat.reduceLT, o_slen, o_sld, o_ishr, and_self, not_true_eq_false, not_false_eq_true, false_imp_iff, true_imp_iff, implies_true, and_false, false_and, or_false, false_or, T_L_cell, eq_self, c]
    refine ⟨?_, s63⟩
    rw [show (2 : Int32) = nI 2 from rfl, show (3 : Int32) = nI 3 from rfl, nI_mul, nI_add, nI_add]
    exact ge0 (by omega)
theorem lays_rules {Γ : jΓ} {Q : jPost} {LL : Nat} {xs : Nat → Int32} (E : E_L_lays LL xs Γ Q) {K : List jK} {h : jM} (hX : jX K) (ht : 0 ≤ (h 4 2).toInt ∧ (h 4 2).toInt ≤ 12) (hT : Q (some (.int (nI (lyN LL xs)))) K (lyM LL xs h)) : ∀ m r, r + m = 4 → jG Γ 30 [some (.ref 0), some (.ref 2000), some (.int (lyK LL xs)), some (.int (nI (lyN LL xs))), none, some (.int (nI r)), none, none, none, none] [] K (rulM LL xs h r) 0 0 := by
  intro m
  induction m with
  | zero =>
    intro r hr
    have e : r = 4 := by omega
    subst e
    refine H_L_lays_30 E 60 _ _ _ _ _ _ ?_
    have c : (4 : Int32) ≤ nI 4 := by decide
    simp only [sg_L_lays_0, sg_L_lays_22, sg_L_lays_25, sg_L_lays_30, sg_L_lays_39, sg_L_lays_63, sg_L_lays_75, sg_L_lays_88, sg_L_lays_101, sg_L_lays_115, sg_L_lays_124, sg_L_lays_139, sg_L_lays_141, sg_L_lays_148, sg_L_lays_151, sg_L_lays_159, sg_L_lays_162, sg_L_lays_165, sg_L_lays_173, sg_L_lays_188, sg_L_lays_206, sg_L_lays_238, sg_L_lays_240, sg_L_lays_248, sg_L_lays_251, sg_L_lays_259, cd_L_lays, jwp, o_ic, o_lc, o_iload, o_lload, o_aload, o_istore, o_lstore, o_astore, o_iinc, o_pop, o_dup, o_dup2, o_iadd, o_isub, o_imul, o_iand, o_ior, o_ishl, o_ladd, o_lmul, o_land, o_lor, o_idiv, o_irem, o_ineg, o_i2l, o_l2i, o_i2b, o_i2s, o_lushr, o_lshr, o_lshl, o_lcmp, o_ifeq, o_ifne, o_iflt, o_ifge, o_ifgt, o_ifle, o_iceq, o_icne, o_iclt, o_icge, o_icgt, o_icle, o_goto, o_tsw, jsw, o_lsw, jlk, o_getf, o_putf, o_putz, o_iald, o_zald, o_iast, o_zast, o_aald, o_alen, o_gets, o_zld, o_zlen, o_cpy, o_call, o_callV, o_ireti, o_iretz, o_lret, o_vret, jg, js, jkp, jkill, jsp, jcs, jfw, jov, Value.category, Option.toList_some, Option.toList_none, List.nil_append, List.cons_append, List.append_nil, Nat.reduceAdd, true_and, and_true, jb0, jb01, jb1, jem, true_or, or_true, Classical.not_not, forall_const, List.length_cons, List.length_nil, Nat.reduceLeDiff, Nat.zero_le, Nat.reduceLT, o_slen, o_sld, o_ishr, and_self, not_true_eq_false, not_false_eq_true, false_imp_iff, true_imp_iff, implies_true, and_false, false_and, or_false, false_or, T_L_cell, eq_self, c]
    exact jG_fg (M := [some (.ref 0), some (.ref 2000), some (.int (lyK LL xs)), some (.int (nI (lyN LL xs))), none, none, none, none, none, none]) ⟨Or.inr rfl, Or.inr rfl, Or.inr rfl, Or.inr rfl, Or.inr rfl, Or.inl rfl, Or.inr rfl, Or.inr rfl, Or.inr rfl, Or.inr rfl, trivial⟩ (lays_173 E hX ht hT)
  | succ m ih =>
    intro r hr
    refine H_L_lays_30 E 60 _ _ _ _ _ _ ?_
    have c : ¬ (4 : Int32) ≤ nI r := by rw [show (4 : Int32) = nI 4 from rfl]; exact nI_tb (by decide) (by omega) (by omega)
    simp only [sg_L_lays_0, sg_L_lays_22, sg_L_lays_25, sg_L_lays_30, sg_L_lays_39, sg_L_lays_63, sg_L_lays_75, sg_L_lays_88, sg_L_lays_101, sg_L_lays_115, sg_L_lays_124, sg_L_lays_139, sg_L_lays_141, sg_L_lays_148, sg_L_lays_151, sg_L_lays_159, sg_L_lays_162, sg_L_lays_165, sg_L_lays_173, sg_L_lays_188, sg_L_lays_206, sg_L_lays_238, sg_L_lays_240, sg_L_lays_248, sg_L_lays_251, sg_L_lays_259, cd_L_lays, jwp, o_ic, o_lc, o_iload, o_lload, o_aload, o_istore, o_lstore, o_astore, o_iinc, o_pop, o_dup, o_dup2, o_iadd, o_isub, o_imul, o_iand, o_ior, o_ishl, o_ladd, o_lmul, o_land, o_lor, o_idiv, o_irem, o_ineg, o_i2l, o_l2i, o_i2b, o_i2s, o_lushr, o_lshr, o_lshl, o_lcmp, o_ifeq, o_ifne, o_iflt, o_ifge, o_ifgt, o_ifle, o_iceq, o_icne, o_iclt, o_icge, o_icgt, o_icle, o_goto, o_tsw, jsw, o_lsw, jlk, o_getf, o_putf, o_putz, o_iald, o_zald, o_iast, o_zast, o_aald, o_alen, o_gets, o_zld, o_zlen, o_cpy, o_call, o_callV, o_ireti, o_iretz, o_lret, o_vret, jg, js, jkp, jkill, jsp, jcs, jfw, jov, Value.category, Option.toList_some, Option.toList_none, List.nil_append, List.cons_append, List.append_nil, Nat.reduceAdd, true_and, and_true, jb0, jb01, jb1, jem, true_or, or_true, Classical.not_not, forall_const, List.length_cons, List.length_nil, Nat.reduceLeDiff, Nat.zero_le, Nat.reduceLT, o_slen, o_sld, o_ishr, and_self, not_true_eq_false, not_false_eq_true, false_imp_iff, true_imp_iff, implies_true, and_false, false_and, or_false, false_or, T_L_cell, eq_self, c]
    exact lays_row E hX ht (by omega) (ih (r + 1) (by omega)) (lyN LL xs) 0 (by omega)
theorem v_L_lays {Γ : jΓ} {Q : jPost} {LL : Nat} {xs : Nat → Int32} (E : E_L_lays LL xs Γ Q) {K : List jK} {h : jM} (hX : jX K) (ht : 0 ≤ (h 4 2).toInt ∧ (h 4 2).toInt ≤ 12) (hT : Q (some (.int (nI (lyN LL xs)))) K (lyM LL xs h)) : jG Γ 0 [some (.ref 0), some (.ref 2000), none, none, none, none, none, none, none, none] [] K h 0 0 := by
  have hb := lyN_b LL xs
  have s30 := lays_rules E hX ht hT 4 0 (by omega)
  have s25 : ∀ v, jG Γ 25 [some (.ref 0), some (.ref 2000), some (.int (lyK LL xs)), some (.int (nI (lyN LL xs))), none, none, none, none, none, none] [.int v] K (cFloor h (lyK LL xs) (nI (lyN LL xs))) 0 0 := by
    intro v
    refine H_L_lays_25 E 60 _ _ _ _ _ _ ?_
    simp only [sg_L_lays_0, sg_L_lays_22, sg_L_lays_25, sg_L_lays_30, sg_L_lays_39, sg_L_lays_63, sg_L_lays_75, sg_L_lays_88, sg_L_lays_101, sg_L_lays_115, sg_L_lays_124, sg_L_lays_139, sg_L_lays_141, sg_L_lays_148, sg_L_lays_151, sg_L_lays_159, sg_L_lays_162, sg_L_lays_165, sg_L_lays_173, sg_L_lays_188, sg_L_lays_206, sg_L_lays_238, sg_L_lays_240, sg_L_lays_248, sg_L_lays_251, sg_L_lays_259, cd_L_lays, jwp, o_ic, o_lc, o_iload, o_lload, o_aload, o_istore, o_lstore, o_astore, o_iinc, o_pop, o_dup, o_dup2, o_iadd, o_isub, o_imul, o_iand, o_ior, o_ishl, o_ladd, o_lmul, o_land, o_lor, o_idiv, o_irem, o_ineg, o_i2l, o_l2i, o_i2b, o_i2s, o_lushr, o_lshr, o_lshl, o_lcmp, o_ifeq, o_ifne, o_iflt, o_ifge, o_ifgt, o_ifle, o_iceq, o_icne, o_iclt, o_icge, o_icgt, o_icle, o_goto, o_tsw, jsw, o_lsw, jlk, o_getf, o_putf, o_putz, o_iald, o_zald, o_iast, o_zast, o_aald, o_alen, o_gets, o_zld, o_zlen, o_cpy, o_call, o_callV, o_ireti, o_iretz, o_lret, o_vret, jg, js, jkp, jkill, jsp, jcs, jfw, jov, Value.category, Option.toList_some, Option.toList_none, List.nil_append, List.cons_append, List.append_nil, Nat.reduceAdd, true_and, and_true, jb0, jb01, jb1, jem, true_or, or_true, Classical.not_not, forall_const, List.length_cons, List.length_nil, Nat.reduceLeDiff, Nat.zero_le, Nat.reduceLT, o_slen, o_sld, o_ishr, and_self, not_true_eq_false, not_false_eq_true, false_imp_iff, true_imp_iff, implies_true, and_false, false_and, or_false, false_or, T_L_cell, eq_self]
    exact jG_fg (M := [some (.ref 0), some (.ref 2000), some (.int (lyK LL xs)), some (.int (nI (lyN LL xs))), none, some (.int (nI 0)), none, none, none, none]) ⟨Or.inr rfl, Or.inr rfl, Or.inr rfl, Or.inr rfl, Or.inl rfl, Or.inr rfl, Or.inr rfl, Or.inr rfl, Or.inr rfl, Or.inr rfl, trivial⟩ s30
  have s22 : jG Γ 22 [some (.ref 0), some (.ref 2000), some (.int (lyK LL xs)), some (.int (nI (lyN LL xs))), none, none, none, none, none, none] [.int (nI (lyN LL xs)), .int (lyK LL xs), .ref 0] K h 0 0 := by
    refine H_L_lays_22 E 60 _ _ _ _ _ _ ?_
    simp only [sg_L_lays_0, sg_L_lays_22, sg_L_lays_25, sg_L_lays_30, sg_L_lays_39, sg_L_lays_63, sg_L_lays_75, sg_L_lays_88, sg_L_lays_101, sg_L_lays_115, sg_L_lays_124, sg_L_lays_139, sg_L_lays_141, sg_L_lays_148, sg_L_lays_151, sg_L_lays_159, sg_L_lays_162, sg_L_lays_165, sg_L_lays_173, sg_L_lays_188, sg_L_lays_206, sg_L_lays_238, sg_L_lays_240, sg_L_lays_248, sg_L_lays_251, sg_L_lays_259, cd_L_lays, jwp, o_ic, o_lc, o_iload, o_lload, o_aload, o_istore, o_lstore, o_astore, o_iinc, o_pop, o_dup, o_dup2, o_iadd, o_isub, o_imul, o_iand, o_ior, o_ishl, o_ladd, o_lmul, o_land, o_lor, o_idiv, o_irem, o_ineg, o_i2l, o_l2i, o_i2b, o_i2s, o_lushr, o_lshr, o_lshl, o_lcmp, o_ifeq, o_ifne, o_iflt, o_ifge, o_ifgt, o_ifle, o_iceq, o_icne, o_iclt, o_icge, o_icgt, o_icle, o_goto, o_tsw, jsw, o_lsw, jlk, o_getf, o_putf, o_putz, o_iald, o_zald, o_iast, o_zast, o_aald, o_alen, o_gets, o_zld, o_zlen, o_cpy, o_call, o_callV, o_ireti, o_iretz, o_lret, o_vret, jg, js, jkp, jkill, jsp, jcs, jfw, jov, Value.category, Option.toList_some, Option.toList_none, List.nil_append, List.cons_append, List.append_nil, Nat.reduceAdd, true_and, and_true, jb0, jb01, jb1, jem, true_or, or_true, Classical.not_not, forall_const, List.length_cons, List.length_nil, Nat.reduceLeDiff, Nat.zero_le, Nat.reduceLT, o_slen, o_sld, o_ishr, and_self, not_true_eq_false, not_false_eq_true, false_imp_iff, true_imp_iff, implies_true, and_false, false_and, or_false, false_or, T_L_cell, eq_self, kxo0 hX]
    have hk : 0 ≤ lyK LL xs ∧ lyK LL xs ≤ 1 := by
      rcases lyK_ok LL xs with z | z
      · rw [z]; decide
      · rw [z]; decide
    have hn : 2 ≤ nI (lyN LL xs) ∧ nI (lyN LL xs) ≤ 12 := by
      rw [show (2 : Int32) = nI 2 from rfl, show (12 : Int32) = nI 12 from rfl, nI_leI (by decide) (by omega), nI_leI (by omega) (by decide)]
      exact hb
    show _ ∧ _
    exact ⟨rfl, hX, fun z => absurd ⟨hk, hn⟩ z, fun _ => ⟨rfl, s25 _⟩⟩
  have e : (2 : Int32) + (nI (cellC LL xs 1) - nI (cellC LL xs 1) / 11 * 11) = nI (lyN LL xs) := by
    rw [show (11 : Int32) = nI 11 from rfl, ly_rem (cellC_lt _ _ _) (by decide) (by decide), show (2 : Int32) = nI 2 from rfl, nI_add]
    rfl
  have n11 : ¬ (11 : Int32) = 0 := by decide
  refine H_L_lays_0 E 60 _ _ _ _ _ _ ?_
  simp only [sg_L_lays_0, sg_L_lays_22, sg_L_lays_25, sg_L_lays_30, sg_L_lays_39, sg_L_lays_63, sg_L_lays_75, sg_L_lays_88, sg_L_lays_101, sg_L_lays_115, sg_L_lays_124, sg_L_lays_139, sg_L_lays_141, sg_L_lays_148, sg_L_lays_151, sg_L_lays_159, sg_L_lays_162, sg_L_lays_165, sg_L_lays_173, sg_L_lays_188, sg_L_lays_206, sg_L_lays_238, sg_L_lays_240, sg_L_lays_248, sg_L_lays_251, sg_L_lays_259, cd_L_lays, jwp, o_ic, o_lc, o_iload, o_lload, o_aload, o_istore, o_lstore, o_astore, o_iinc, o_pop, o_dup, o_dup2, o_iadd, o_isub, o_imul, o_iand, o_ior, o_ishl, o_ladd, o_lmul, o_land, o_lor, o_idiv, o_irem, o_ineg, o_i2l, o_l2i, o_i2b, o_i2s, o_lushr, o_lshr, o_lshl, o_lcmp, o_ifeq, o_ifne, o_iflt, o_ifge, o_ifgt, o_ifle, o_iceq, o_icne, o_iclt, o_icge, o_icgt, o_icle, o_goto, o_tsw, jsw, o_lsw, jlk, o_getf, o_putf, o_putz, o_iald, o_zald, o_iast, o_zast, o_aald, o_alen, o_gets, o_zld, o_zlen, o_cpy, o_call, o_callV, o_ireti, o_iretz, o_lret, o_vret, jg, js, jkp, jkill, jsp, jcs, jfw, jov, Value.category, Option.toList_some, Option.toList_none, List.nil_append, List.cons_append, List.append_nil, Nat.reduceAdd, true_and, and_true, jb0, jb01, jb1, jem, true_or, or_true, Classical.not_not, forall_const, List.length_cons, List.length_nil, Nat.reduceLeDiff, Nat.zero_le, Nat.reduceLT, o_slen, o_sld, o_ishr, and_self, not_true_eq_false, not_false_eq_true, false_imp_iff, true_imp_iff, implies_true, and_false, false_and, or_false, false_or, T_L_cell, eq_self, n11]
  rw [e]
  exact ⟨by decide, by decide, s22⟩
theorem m_L_lays (l : Launch) {LL : Nat} {xs : Nat → Int32} (hL : LL ≤ 260) : jHoldsS LL xs vwCl l yL_lays wsL_lays 3 69 0 0 (T_L_lays LL xs) := by
  refine jMetS (cc := cL_lays) (maxL := 10) (rt := (some .int)) (by decide +kernel) rfl (fun Γ Q vs K h hl hn hcl C hS hR hT => ?_)
  unfold T_L_lays at hT
  split at hT
  · obtain ⟨rfl, rfl, hX, ht, hT⟩ := hT
    exact ⟨Nat.le_of_ble_eq_true rfl, v_L_lays ⟨hn, hcl, C, hR, hL, hS⟩ hX ht hT⟩
  · exact hT.elim
