theorem okc_L {Γ : jΓ} (t : Nat) : jSS Γ qT t (cd_L t) := by
  show jSS Γ qT t []
  trivial
theorem oo_L_0 {Γ : jΓ} {b LL : Nat} {xs : Nat → Int32} (E : E_L Γ b LL xs) : jSA Γ qT 0 (o_new 600000 7302250 6 jf_X6) 3 := by
  obtain ⟨E1, E2, ⟨nm, C⟩, S⟩ := E
  exact so_new (ci := 6) (fs := jf_X6) C tyX6 tyX6_ok wi_L_law_X6 (by rw [E2]; rfl) (by decide +kernel) (by decide +kernel) (by decide +kernel) rfl rfl (fun j hj => by match j, hj with | 0, _ => rfl | 1, _ => rfl | 2, _ => rfl | 3, _ => rfl | 4, _ => rfl | 5, _ => rfl | 6, _ => rfl | 7, _ => rfl | 8, _ => rfl | q + 9, z => exact absurd z (by omega)) dL_law_0
theorem oo_L_3 {Γ : jΓ} {b LL : Nat} {xs : Nat → Int32} (E : E_L Γ b LL xs) : jSA Γ qT 3 (o_dup) 1 := by
  obtain ⟨E1, E2, ⟨nm, C⟩, S⟩ := E
  exact so_dup C dL_law_3
theorem oo_L_4 {Γ : jΓ} {b LL : Nat} {xs : Nat → Int32} (E : E_L Γ b LL xs) : jSA Γ qT 4 (o_callA 600000 7302250 1 36 231019 T_X6_init) 3 := by
  obtain ⟨E1, E2, ⟨nm, C⟩, S⟩ := E
  exact so_callI C gL_law_X6_init (by decide +kernel) (by decide +kernel) (by decide +kernel) (by decide +kernel) (by decide +kernel) rfl (by rw [E2]; exact m_X6_init _) (by decide) (by decide) dL_law_4
theorem oo_L_7 {Γ : jΓ} {b LL : Nat} {xs : Nat → Int32} (E : E_L Γ b LL xs) : jSA Γ qT 7 (o_astore 1) 1 := by
  obtain ⟨E1, E2, ⟨nm, C⟩, S⟩ := E
  exact so_astore_n C rfl (by rw [E1]; decide) dL_law_7
theorem ok_L_0 {Γ : jΓ} {b LL : Nat} {xs : Nat → Int32} (E : E_L Γ b LL xs) : jSS Γ qT 0 (sg_L_0 LL xs) := ⟨oo_L_0 E, oo_L_3 E, oo_L_4 E, oo_L_7 E, trivial⟩
theorem H_L_0 {Γ : jΓ} {b LL : Nat} {xs : Nat → Int32} (E : E_L Γ b LL xs) : jHd cd_L (jG Γ) qT (sg_L_0 LL xs) 0 := fun n L st K h ce sl => jwp_ok (cd := cd_L) (Γ := Γ) (Q := qT) okc_L n (sg_L_0 LL xs) 0 (ok_L_0 E) L st K h ce sl
theorem oo_L_8 {Γ : jΓ} {b LL : Nat} {xs : Nat → Int32} (E : E_L Γ b LL xs) : jSA Γ qT 8 (o_new 600000 7302250 7 jf_X7) 3 := by
  obtain ⟨E1, E2, ⟨nm, C⟩, S⟩ := E
  exact so_new (ci := 7) (fs := jf_X7) C tyX7 tyX7_ok wi_L_law_X7 (by rw [E2]; rfl) (by decide +kernel) (by decide +kernel) (by decide +kernel) rfl rfl (fun j hj => by match j, hj with | 0, _ => rfl | 1, _ => rfl | 2, _ => rfl | 3, _ => rfl | 4, _ => rfl | 5, _ => rfl | 6, _ => rfl | 7, _ => rfl | 8, _ => rfl | 9, _ => rfl | 10, _ => rfl | 11, _ => rfl | 12, _ => rfl | 13, _ => rfl | 14, _ => rfl | 15, _ => rfl | 16, _ => rfl | 17, _ => rfl | 18, _ => rfl | 19, _ => rfl | 20, _ => rfl | 21, _ => rfl | 22, _ => rfl | 23, _ => rfl | 24, _ => rfl | 25, _ => rfl | 26, _ => rfl | 27, _ => rfl | 28, _ => rfl | 29, _ => rfl | 30, _ => rfl | 31, _ => rfl | 32, _ => rfl | q + 33, z => exact absurd z (by omega)) dL_law_8
theorem oo_L_11 {Γ : jΓ} {b LL : Nat} {xs : Nat → Int32} (E : E_L Γ b LL xs) : jSA Γ qT 11 (o_dup) 1 := by
  obtain ⟨E1, E2, ⟨nm, C⟩, S⟩ := E
  exact so_dup C dL_law_11
theorem oo_L_12 {Γ : jΓ} {b LL : Nat} {xs : Nat → Int32} (E : E_L Γ b LL xs) : jSA Γ qT 12 (o_callA 600000 7302250 1 19 231038 T_X7_init) 3 := by
  obtain ⟨E1, E2, ⟨nm, C⟩, S⟩ := E
  exact so_callI C gL_law_X7_init (by decide +kernel) (by decide +kernel) (by decide +kernel) (by decide +kernel) (by decide +kernel) rfl (by rw [E2]; exact m_X7_init _) (by decide) (by decide) dL_law_12
theorem oo_L_15 {Γ : jΓ} {b LL : Nat} {xs : Nat → Int32} (E : E_L Γ b LL xs) : jSA Γ qT 15 (o_astore 2) 1 := by
  obtain ⟨E1, E2, ⟨nm, C⟩, S⟩ := E
  exact so_astore_n C rfl (by rw [E1]; decide) dL_law_15
theorem oo_L_16 {Γ : jΓ} {b LL : Nat} {xs : Nat → Int32} (E : E_L Γ b LL xs) : jSA Γ qT 16 (o_ic (0)) 1 := by
  obtain ⟨E1, E2, ⟨nm, C⟩, S⟩ := E
  exact so_iconst C rfl dL_law_16
theorem oo_L_17 {Γ : jΓ} {b LL : Nat} {xs : Nat → Int32} (E : E_L Γ b LL xs) : jSA Γ qT 17 (o_istore 3) 1 := by
  obtain ⟨E1, E2, ⟨nm, C⟩, S⟩ := E
  exact so_istore_n C rfl (by rw [E1]; decide) dL_law_17
theorem ok_L_8 {Γ : jΓ} {b LL : Nat} {xs : Nat → Int32} (E : E_L Γ b LL xs) : jSS Γ qT 8 (sg_L_8 LL xs) := ⟨oo_L_8 E, oo_L_11 E, oo_L_12 E, oo_L_15 E, oo_L_16 E, oo_L_17 E, trivial⟩
theorem H_L_8 {Γ : jΓ} {b LL : Nat} {xs : Nat → Int32} (E : E_L Γ b LL xs) : jHd cd_L (jG Γ) qT (sg_L_8 LL xs) 8 := fun n L st K h ce sl => jwp_ok (cd := cd_L) (Γ := Γ) (Q := qT) okc_L n (sg_L_8 LL xs) 8 (ok_L_8 E) L st K h ce sl
theorem oo_L_18 {Γ : jΓ} {b LL : Nat} {xs : Nat → Int32} (E : E_L Γ b LL xs) : jSA Γ qT 18 (o_iload 3) 1 := by
  obtain ⟨E1, E2, ⟨nm, C⟩, S⟩ := E
  exact so_iload_n C rfl dL_law_18
theorem oo_L_19 {Γ : jΓ} {b LL : Nat} {xs : Nat → Int32} (E : E_L Γ b LL xs) : jSA Γ qT 19 (o_aload 0) 1 := by
  obtain ⟨E1, E2, ⟨nm, C⟩, S⟩ := E
  exact so_aload_n C rfl dL_law_19
theorem oo_L_20 {Γ : jΓ} {b LL : Nat} {xs : Nat → Int32} (E : E_L Γ b LL xs) : jSA Γ qT 20 (o_slen LL) 1 := by
  obtain ⟨E1, E2, ⟨nm, C⟩, S⟩ := E
  exact so_slen C S dL_law_20
theorem oo_L_21 {Γ : jΓ} {b LL : Nat} {xs : Nat → Int32} (E : E_L Γ b LL xs) : jSA Γ qT 21 (o_ic (7)) 2 := by
  obtain ⟨E1, E2, ⟨nm, C⟩, S⟩ := E
  exact so_bipush C rfl dL_law_21
theorem oo_L_23 {Γ : jΓ} {b LL : Nat} {xs : Nat → Int32} (E : E_L Γ b LL xs) : jSA Γ qT 23 (o_isub) 1 := by
  obtain ⟨E1, E2, ⟨nm, C⟩, S⟩ := E
  exact so_isub C dL_law_23
theorem oo_L_24 {Γ : jΓ} {b LL : Nat} {xs : Nat → Int32} (E : E_L Γ b LL xs) : jSA Γ qT 24 (o_icgt 955) 3 := by
  obtain ⟨E1, E2, ⟨nm, C⟩, S⟩ := E
  exact so_icgt C (by decide) dL_law_24
theorem oo_L_27 {Γ : jΓ} {b LL : Nat} {xs : Nat → Int32} (E : E_L Γ b LL xs) : jSA Γ qT 27 (o_aload 0) 1 := by
  obtain ⟨E1, E2, ⟨nm, C⟩, S⟩ := E
  exact so_aload_n C rfl dL_law_27
theorem oo_L_28 {Γ : jΓ} {b LL : Nat} {xs : Nat → Int32} (E : E_L Γ b LL xs) : jSA Γ qT 28 (o_iload 3) 1 := by
  obtain ⟨E1, E2, ⟨nm, C⟩, S⟩ := E
  exact so_iload_n C rfl dL_law_28
theorem oo_L_29 {Γ : jΓ} {b LL : Nat} {xs : Nat → Int32} (E : E_L Γ b LL xs) : jSA Γ qT 29 (o_sld LL xs) 1 := by
  obtain ⟨E1, E2, ⟨nm, C⟩, S⟩ := E
  exact so_sld C S dL_law_29
theorem oo_L_30 {Γ : jΓ} {b LL : Nat} {xs : Nat → Int32} (E : E_L Γ b LL xs) : jSA Γ qT 30 (o_ic (31)) 2 := by
  obtain ⟨E1, E2, ⟨nm, C⟩, S⟩ := E
  exact so_bipush C rfl dL_law_30
theorem oo_L_32 {Γ : jΓ} {b LL : Nat} {xs : Nat → Int32} (E : E_L Γ b LL xs) : jSA Γ qT 32 (o_iand) 1 := by
  obtain ⟨E1, E2, ⟨nm, C⟩, S⟩ := E
  exact so_iand C dL_law_32
theorem oo_L_33 {Γ : jΓ} {b LL : Nat} {xs : Nat → Int32} (E : E_L Γ b LL xs) : jSA Γ qT 33 (o_tsw (0) 949 [144, 177, 240, 263, 316, 329, 372, 405, 438, 461, 474, 507, 540, 563, 586, 600, 613, 636, 649, 692, 735, 758, 811, 886]) 111 := by
  obtain ⟨E1, E2, ⟨nm, C⟩, S⟩ := E
  exact so_tsw C (by decide) (by decide) (by decide) dL_law_33
theorem ok_L_18 {Γ : jΓ} {b LL : Nat} {xs : Nat → Int32} (E : E_L Γ b LL xs) : jSS Γ qT 18 (sg_L_18 LL xs) := ⟨oo_L_18 E, oo_L_19 E, oo_L_20 E, oo_L_21 E, oo_L_23 E, oo_L_24 E, oo_L_27 E, oo_L_28 E, oo_L_29 E, oo_L_30 E, oo_L_32 E, oo_L_33 E, trivial⟩
theorem H_L_18 {Γ : jΓ} {b LL : Nat} {xs : Nat → Int32} (E : E_L Γ b LL xs) : jHd cd_L (jG Γ) qT (sg_L_18 LL xs) 18 := fun n L st K h ce sl => jwp_ok (cd := cd_L) (Γ := Γ) (Q := qT) okc_L n (sg_L_18 LL xs) 18 (ok_L_18 E) L st K h ce sl
theorem oo_L_144 {Γ : jΓ} {b LL : Nat} {xs : Nat → Int32} (E : E_L Γ b LL xs) : jSA Γ qT 144 (o_aload 1) 1 := by
  obtain ⟨E1, E2, ⟨nm, C⟩, S⟩ := E
  exact so_aload_n C rfl dL_law_144
theorem oo_L_145 {Γ : jΓ} {b LL : Nat} {xs : Nat → Int32} (E : E_L Γ b LL xs) : jSA Γ qT 145 (o_aload 0) 1 := by
  obtain ⟨E1, E2, ⟨nm, C⟩, S⟩ := E
  exact so_aload_n C rfl dL_law_145
theorem oo_L_146 {Γ : jΓ} {b LL : Nat} {xs : Nat → Int32} (E : E_L Γ b LL xs) : jSA Γ qT 146 (o_iload 3) 1 := by
  obtain ⟨E1, E2, ⟨nm, C⟩, S⟩ := E
  exact so_iload_n C rfl dL_law_146
theorem oo_L_147 {Γ : jΓ} {b LL : Nat} {xs : Nat → Int32} (E : E_L Γ b LL xs) : jSA Γ qT 147 (o_ic (1)) 1 := by
  obtain ⟨E1, E2, ⟨nm, C⟩, S⟩ := E
  exact so_iconst C rfl dL_law_147
theorem oo_L_148 {Γ : jΓ} {b LL : Nat} {xs : Nat → Int32} (E : E_L Γ b LL xs) : jSA Γ qT 148 (o_iadd) 1 := by
  obtain ⟨E1, E2, ⟨nm, C⟩, S⟩ := E
  exact so_iadd C dL_law_148
theorem oo_L_149 {Γ : jΓ} {b LL : Nat} {xs : Nat → Int32} (E : E_L Γ b LL xs) : jSA Γ qT 149 (o_sld LL xs) 1 := by
  obtain ⟨E1, E2, ⟨nm, C⟩, S⟩ := E
  exact so_sld C S dL_law_149
theorem oo_L_150 {Γ : jΓ} {b LL : Nat} {xs : Nat → Int32} (E : E_L Γ b LL xs) : jSA Γ qT 150 (o_aload 0) 1 := by
  obtain ⟨E1, E2, ⟨nm, C⟩, S⟩ := E
  exact so_aload_n C rfl dL_law_150
theorem oo_L_151 {Γ : jΓ} {b LL : Nat} {xs : Nat → Int32} (E : E_L Γ b LL xs) : jSA Γ qT 151 (o_iload 3) 1 := by
  obtain ⟨E1, E2, ⟨nm, C⟩, S⟩ := E
  exact so_iload_n C rfl dL_law_151
theorem oo_L_152 {Γ : jΓ} {b LL : Nat} {xs : Nat → Int32} (E : E_L Γ b LL xs) : jSA Γ qT 152 (o_ic (2)) 1 := by
  obtain ⟨E1, E2, ⟨nm, C⟩, S⟩ := E
  exact so_iconst C rfl dL_law_152
theorem oo_L_153 {Γ : jΓ} {b LL : Nat} {xs : Nat → Int32} (E : E_L Γ b LL xs) : jSA Γ qT 153 (o_iadd) 1 := by
  obtain ⟨E1, E2, ⟨nm, C⟩, S⟩ := E
  exact so_iadd C dL_law_153
theorem oo_L_154 {Γ : jΓ} {b LL : Nat} {xs : Nat → Int32} (E : E_L Γ b LL xs) : jSA Γ qT 154 (o_sld LL xs) 1 := by
  obtain ⟨E1, E2, ⟨nm, C⟩, S⟩ := E
  exact so_sld C S dL_law_154
theorem oo_L_155 {Γ : jΓ} {b LL : Nat} {xs : Nat → Int32} (E : E_L Γ b LL xs) : jSA Γ qT 155 (o_callV 3 6 T_X6_floor) 3 := by
  obtain ⟨E1, E2, ⟨nm, C⟩, S⟩ := E
  exact so_callV C (ci := 6) (by rw [E2]; rfl) gL_law_X6_floor (by decide +kernel) rfl (by rw [E2]; exact m_X6_floor _) (by decide) (by decide) dL_law_155
theorem ok_L_144 {Γ : jΓ} {b LL : Nat} {xs : Nat → Int32} (E : E_L Γ b LL xs) : jSS Γ qT 144 (sg_L_144 LL xs) := ⟨oo_L_144 E, oo_L_145 E, oo_L_146 E, oo_L_147 E, oo_L_148 E, oo_L_149 E, oo_L_150 E, oo_L_151 E, oo_L_152 E, oo_L_153 E, oo_L_154 E, oo_L_155 E, trivial⟩
theorem H_L_144 {Γ : jΓ} {b LL : Nat} {xs : Nat → Int32} (E : E_L Γ b LL xs) : jHd cd_L (jG Γ) qT (sg_L_144 LL xs) 144 := fun n L st K h ce sl => jwp_ok (cd := cd_L) (Γ := Γ) (Q := qT) okc_L n (sg_L_144 LL xs) 144 (ok_L_144 E) L st K h ce sl
theorem oo_L_158 {Γ : jΓ} {b LL : Nat} {xs : Nat → Int32} (E : E_L Γ b LL xs) : jSA Γ qT 158 (o_aload 2) 1 := by
  obtain ⟨E1, E2, ⟨nm, C⟩, S⟩ := E
  exact so_aload_n C rfl dL_law_158
theorem oo_L_159 {Γ : jΓ} {b LL : Nat} {xs : Nat → Int32} (E : E_L Γ b LL xs) : jSA Γ qT 159 (o_aload 0) 1 := by
  obtain ⟨E1, E2, ⟨nm, C⟩, S⟩ := E
  exact so_aload_n C rfl dL_law_159
theorem oo_L_160 {Γ : jΓ} {b LL : Nat} {xs : Nat → Int32} (E : E_L Γ b LL xs) : jSA Γ qT 160 (o_iload 3) 1 := by
  obtain ⟨E1, E2, ⟨nm, C⟩, S⟩ := E
  exact so_iload_n C rfl dL_law_160
theorem oo_L_161 {Γ : jΓ} {b LL : Nat} {xs : Nat → Int32} (E : E_L Γ b LL xs) : jSA Γ qT 161 (o_ic (1)) 1 := by
  obtain ⟨E1, E2, ⟨nm, C⟩, S⟩ := E
  exact so_iconst C rfl dL_law_161
theorem oo_L_162 {Γ : jΓ} {b LL : Nat} {xs : Nat → Int32} (E : E_L Γ b LL xs) : jSA Γ qT 162 (o_iadd) 1 := by
  obtain ⟨E1, E2, ⟨nm, C⟩, S⟩ := E
  exact so_iadd C dL_law_162
theorem oo_L_163 {Γ : jΓ} {b LL : Nat} {xs : Nat → Int32} (E : E_L Γ b LL xs) : jSA Γ qT 163 (o_sld LL xs) 1 := by
  obtain ⟨E1, E2, ⟨nm, C⟩, S⟩ := E
  exact so_sld C S dL_law_163
theorem oo_L_164 {Γ : jΓ} {b LL : Nat} {xs : Nat → Int32} (E : E_L Γ b LL xs) : jSA Γ qT 164 (o_aload 0) 1 := by
  obtain ⟨E1, E2, ⟨nm, C⟩, S⟩ := E
  exact so_aload_n C rfl dL_law_164
theorem oo_L_165 {Γ : jΓ} {b LL : Nat} {xs : Nat → Int32} (E : E_L Γ b LL xs) : jSA Γ qT 165 (o_iload 3) 1 := by
  obtain ⟨E1, E2, ⟨nm, C⟩, S⟩ := E
  exact so_iload_n C rfl dL_law_165
theorem oo_L_166 {Γ : jΓ} {b LL : Nat} {xs : Nat → Int32} (E : E_L Γ b LL xs) : jSA Γ qT 166 (o_ic (2)) 1 := by
  obtain ⟨E1, E2, ⟨nm, C⟩, S⟩ := E
  exact so_iconst C rfl dL_law_166
theorem oo_L_167 {Γ : jΓ} {b LL : Nat} {xs : Nat → Int32} (E : E_L Γ b LL xs) : jSA Γ qT 167 (o_iadd) 1 := by
  obtain ⟨E1, E2, ⟨nm, C⟩, S⟩ := E
  exact so_iadd C dL_law_167
theorem oo_L_168 {Γ : jΓ} {b LL : Nat} {xs : Nat → Int32} (E : E_L Γ b LL xs) : jSA Γ qT 168 (o_sld LL xs) 1 := by
  obtain ⟨E1, E2, ⟨nm, C⟩, S⟩ := E
  exact so_sld C S dL_law_168
theorem oo_L_169 {Γ : jΓ} {b LL : Nat} {xs : Nat → Int32} (E : E_L Γ b LL xs) : jSA Γ qT 169 (o_callV 3 7 T_X7_floor) 3 := by
  obtain ⟨E1, E2, ⟨nm, C⟩, S⟩ := E
  exact so_callV C (ci := 7) (by rw [E2]; rfl) gL_law_X7_floor (by decide +kernel) rfl (by rw [E2]; exact m_X7_floor _) (by decide) (by decide) dL_law_169
theorem oo_L_172 {Γ : jΓ} {b LL : Nat} {xs : Nat → Int32} (E : E_L Γ b LL xs) : jSA Γ qT 172 (o_iceq 949) 3 := by
  obtain ⟨E1, E2, ⟨nm, C⟩, S⟩ := E
  exact so_iceq C (by decide) dL_law_172
theorem oo_L_175 {Γ : jΓ} {b LL : Nat} {xs : Nat → Int32} (E : E_L Γ b LL xs) : jSA Γ qT 175 (o_ic (0)) 1 := by
  obtain ⟨E1, E2, ⟨nm, C⟩, S⟩ := E
  exact so_iconst C rfl dL_law_175
theorem ok_L_158 {Γ : jΓ} {b LL : Nat} {xs : Nat → Int32} (E : E_L Γ b LL xs) : jSS Γ qT 158 (sg_L_158 LL xs) := ⟨oo_L_158 E, oo_L_159 E, oo_L_160 E, oo_L_161 E, oo_L_162 E, oo_L_163 E, oo_L_164 E, oo_L_165 E, oo_L_166 E, oo_L_167 E, oo_L_168 E, oo_L_169 E, oo_L_172 E, oo_L_175 E, trivial⟩
theorem H_L_158 {Γ : jΓ} {b LL : Nat} {xs : Nat → Int32} (E : E_L Γ b LL xs) : jHd cd_L (jG Γ) qT (sg_L_158 LL xs) 158 := fun n L st K h ce sl => jwp_ok (cd := cd_L) (Γ := Γ) (Q := qT) okc_L n (sg_L_158 LL xs) 158 (ok_L_158 E) L st K h ce sl
theorem oo_L_177 {Γ : jΓ} {b LL : Nat} {xs : Nat → Int32} (E : E_L Γ b LL xs) : jSA Γ qT 177 (o_aload 1) 1 := by
  obtain ⟨E1, E2, ⟨nm, C⟩, S⟩ := E
  exact so_aload_n C rfl dL_law_177
theorem oo_L_178 {Γ : jΓ} {b LL : Nat} {xs : Nat → Int32} (E : E_L Γ b LL xs) : jSA Γ qT 178 (o_aload 0) 1 := by
  obtain ⟨E1, E2, ⟨nm, C⟩, S⟩ := E
  exact so_aload_n C rfl dL_law_178
theorem oo_L_179 {Γ : jΓ} {b LL : Nat} {xs : Nat → Int32} (E : E_L Γ b LL xs) : jSA Γ qT 179 (o_iload 3) 1 := by
  obtain ⟨E1, E2, ⟨nm, C⟩, S⟩ := E
  exact so_iload_n C rfl dL_law_179
theorem oo_L_180 {Γ : jΓ} {b LL : Nat} {xs : Nat → Int32} (E : E_L Γ b LL xs) : jSA Γ qT 180 (o_ic (1)) 1 := by
  obtain ⟨E1, E2, ⟨nm, C⟩, S⟩ := E
  exact so_iconst C rfl dL_law_180
theorem oo_L_181 {Γ : jΓ} {b LL : Nat} {xs : Nat → Int32} (E : E_L Γ b LL xs) : jSA Γ qT 181 (o_iadd) 1 := by
  obtain ⟨E1, E2, ⟨nm, C⟩, S⟩ := E
  exact so_iadd C dL_law_181
theorem oo_L_182 {Γ : jΓ} {b LL : Nat} {xs : Nat → Int32} (E : E_L Γ b LL xs) : jSA Γ qT 182 (o_sld LL xs) 1 := by
  obtain ⟨E1, E2, ⟨nm, C⟩, S⟩ := E
  exact so_sld C S dL_law_182
theorem oo_L_183 {Γ : jΓ} {b LL : Nat} {xs : Nat → Int32} (E : E_L Γ b LL xs) : jSA Γ qT 183 (o_i2l) 1 := by
  obtain ⟨E1, E2, ⟨nm, C⟩, S⟩ := E
  exact so_i2l C dL_law_183
theorem oo_L_184 {Γ : jΓ} {b LL : Nat} {xs : Nat → Int32} (E : E_L Γ b LL xs) : jSA Γ qT 184 (o_ic (32)) 2 := by
  obtain ⟨E1, E2, ⟨nm, C⟩, S⟩ := E
  exact so_bipush C rfl dL_law_184
theorem oo_L_186 {Γ : jΓ} {b LL : Nat} {xs : Nat → Int32} (E : E_L Γ b LL xs) : jSA Γ qT 186 (o_lshl) 1 := by
  obtain ⟨E1, E2, ⟨nm, C⟩, S⟩ := E
  exact so_lshl C dL_law_186
theorem oo_L_187 {Γ : jΓ} {b LL : Nat} {xs : Nat → Int32} (E : E_L Γ b LL xs) : jSA Γ qT 187 (o_aload 0) 1 := by
  obtain ⟨E1, E2, ⟨nm, C⟩, S⟩ := E
  exact so_aload_n C rfl dL_law_187
theorem oo_L_188 {Γ : jΓ} {b LL : Nat} {xs : Nat → Int32} (E : E_L Γ b LL xs) : jSA Γ qT 188 (o_iload 3) 1 := by
  obtain ⟨E1, E2, ⟨nm, C⟩, S⟩ := E
  exact so_iload_n C rfl dL_law_188
theorem oo_L_189 {Γ : jΓ} {b LL : Nat} {xs : Nat → Int32} (E : E_L Γ b LL xs) : jSA Γ qT 189 (o_ic (2)) 1 := by
  obtain ⟨E1, E2, ⟨nm, C⟩, S⟩ := E
  exact so_iconst C rfl dL_law_189
theorem oo_L_190 {Γ : jΓ} {b LL : Nat} {xs : Nat → Int32} (E : E_L Γ b LL xs) : jSA Γ qT 190 (o_iadd) 1 := by
  obtain ⟨E1, E2, ⟨nm, C⟩, S⟩ := E
  exact so_iadd C dL_law_190
theorem oo_L_191 {Γ : jΓ} {b LL : Nat} {xs : Nat → Int32} (E : E_L Γ b LL xs) : jSA Γ qT 191 (o_sld LL xs) 1 := by
  obtain ⟨E1, E2, ⟨nm, C⟩, S⟩ := E
  exact so_sld C S dL_law_191
theorem oo_L_192 {Γ : jΓ} {b LL : Nat} {xs : Nat → Int32} (E : E_L Γ b LL xs) : jSA Γ qT 192 (o_i2l) 1 := by
  obtain ⟨E1, E2, ⟨nm, C⟩, S⟩ := E
  exact so_i2l C dL_law_192
theorem oo_L_193 {Γ : jΓ} {b LL : Nat} {xs : Nat → Int32} (E : E_L Γ b LL xs) : jSA Γ qT 193 (o_lc (4294967295)) 3 := by
  obtain ⟨E1, E2, ⟨nm, C⟩, S⟩ := E
  exact so_ldc2 C (by decide +kernel) dL_law_193
theorem oo_L_196 {Γ : jΓ} {b LL : Nat} {xs : Nat → Int32} (E : E_L Γ b LL xs) : jSA Γ qT 196 (o_land) 1 := by
  obtain ⟨E1, E2, ⟨nm, C⟩, S⟩ := E
  exact so_land C dL_law_196
theorem oo_L_197 {Γ : jΓ} {b LL : Nat} {xs : Nat → Int32} (E : E_L Γ b LL xs) : jSA Γ qT 197 (o_lor) 1 := by
  obtain ⟨E1, E2, ⟨nm, C⟩, S⟩ := E
  exact so_lor C dL_law_197
theorem oo_L_198 {Γ : jΓ} {b LL : Nat} {xs : Nat → Int32} (E : E_L Γ b LL xs) : jSA Γ qT 198 (o_aload 0) 1 := by
  obtain ⟨E1, E2, ⟨nm, C⟩, S⟩ := E
  exact so_aload_n C rfl dL_law_198
theorem oo_L_199 {Γ : jΓ} {b LL : Nat} {xs : Nat → Int32} (E : E_L Γ b LL xs) : jSA Γ qT 199 (o_iload 3) 1 := by
  obtain ⟨E1, E2, ⟨nm, C⟩, S⟩ := E
  exact so_iload_n C rfl dL_law_199
theorem oo_L_200 {Γ : jΓ} {b LL : Nat} {xs : Nat → Int32} (E : E_L Γ b LL xs) : jSA Γ qT 200 (o_ic (3)) 1 := by
  obtain ⟨E1, E2, ⟨nm, C⟩, S⟩ := E
  exact so_iconst C rfl dL_law_200
theorem oo_L_201 {Γ : jΓ} {b LL : Nat} {xs : Nat → Int32} (E : E_L Γ b LL xs) : jSA Γ qT 201 (o_iadd) 1 := by
  obtain ⟨E1, E2, ⟨nm, C⟩, S⟩ := E
  exact so_iadd C dL_law_201
theorem oo_L_202 {Γ : jΓ} {b LL : Nat} {xs : Nat → Int32} (E : E_L Γ b LL xs) : jSA Γ qT 202 (o_sld LL xs) 1 := by
  obtain ⟨E1, E2, ⟨nm, C⟩, S⟩ := E
  exact so_sld C S dL_law_202
theorem oo_L_203 {Γ : jΓ} {b LL : Nat} {xs : Nat → Int32} (E : E_L Γ b LL xs) : jSA Γ qT 203 (o_callV 3 6 T_X6_type) 3 := by
  obtain ⟨E1, E2, ⟨nm, C⟩, S⟩ := E
  exact so_callV C (ci := 6) (by rw [E2]; rfl) gL_law_X6_type (by decide +kernel) rfl (by rw [E2]; exact m_X6_type _) (by decide) (by decide) dL_law_203
theorem ok_L_177 {Γ : jΓ} {b LL : Nat} {xs : Nat → Int32} (E : E_L Γ b LL xs) : jSS Γ qT 177 (sg_L_177 LL xs) := ⟨oo_L_177 E, oo_L_178 E, oo_L_179 E, oo_L_180 E, oo_L_181 E, oo_L_182 E, oo_L_183 E, oo_L_184 E, oo_L_186 E, oo_L_187 E, oo_L_188 E, oo_L_189 E, oo_L_190 E, oo_L_191 E, oo_L_192 E, oo_L_193 E, oo_L_196 E, oo_L_197 E, oo_L_198 E, oo_L_199 E, oo_L_200 E, oo_L_201 E, oo_L_202 E, oo_L_203 E, trivial⟩
theorem H_L_177 {Γ : jΓ} {b LL : Nat} {xs : Nat → Int32} (E : E_L Γ b LL xs) : jHd cd_L (jG Γ) qT (sg_L_177 LL xs) 177 := fun n L st K h ce sl => jwp_ok (cd := cd_L) (Γ := Γ) (Q := qT) okc_L n (sg_L_177 LL xs) 177 (ok_L_177 E) L st K h ce sl
theorem oo_L_206 {Γ : jΓ} {b LL : Nat} {xs : Nat → Int32} (E : E_L Γ b LL xs) : jSA Γ qT 206 (o_aload 2) 1 := by
  obtain ⟨E1, E2, ⟨nm, C⟩, S⟩ := E
  exact so_aload_n C rfl dL_law_206
theorem oo_L_207 {Γ : jΓ} {b LL : Nat} {xs : Nat → Int32} (E : E_L Γ b LL xs) : jSA Γ qT 207 (o_aload 0) 1 := by
  obtain ⟨E1, E2, ⟨nm, C⟩, S⟩ := E
  exact so_aload_n C rfl dL_law_207
theorem oo_L_208 {Γ : jΓ} {b LL : Nat} {xs : Nat → Int32} (E : E_L Γ b LL xs) : jSA Γ qT 208 (o_iload 3) 1 := by
  obtain ⟨E1, E2, ⟨nm, C⟩, S⟩ := E
  exact so_iload_n C rfl dL_law_208
theorem oo_L_209 {Γ : jΓ} {b LL : Nat} {xs : Nat → Int32} (E : E_L Γ b LL xs) : jSA Γ qT 209 (o_ic (1)) 1 := by
  obtain ⟨E1, E2, ⟨nm, C⟩, S⟩ := E
  exact so_iconst C rfl dL_law_209
theorem oo_L_210 {Γ : jΓ} {b LL : Nat} {xs : Nat → Int32} (E : E_L Γ b LL xs) : jSA Γ qT 210 (o_iadd) 1 := by
  obtain ⟨E1, E2, ⟨nm, C⟩, S⟩ := E
  exact so_iadd C dL_law_210
theorem oo_L_211 {Γ : jΓ} {b LL : Nat} {xs : Nat → Int32} (E : E_L Γ b LL xs) : jSA Γ qT 211 (o_sld LL xs) 1 := by
  obtain ⟨E1, E2, ⟨nm, C⟩, S⟩ := E
  exact so_sld C S dL_law_211
theorem oo_L_212 {Γ : jΓ} {b LL : Nat} {xs : Nat → Int32} (E : E_L Γ b LL xs) : jSA Γ qT 212 (o_i2l) 1 := by
  obtain ⟨E1, E2, ⟨nm, C⟩, S⟩ := E
  exact so_i2l C dL_law_212
theorem oo_L_213 {Γ : jΓ} {b LL : Nat} {xs : Nat → Int32} (E : E_L Γ b LL xs) : jSA Γ qT 213 (o_ic (32)) 2 := by
  obtain ⟨E1, E2, ⟨nm, C⟩, S⟩ := E
  exact so_bipush C rfl dL_law_213
theorem oo_L_215 {Γ : jΓ} {b LL : Nat} {xs : Nat → Int32} (E : E_L Γ b LL xs) : jSA Γ qT 215 (o_lshl) 1 := by
  obtain ⟨E1, E2, ⟨nm, C⟩, S⟩ := E
  exact so_lshl C dL_law_215
theorem oo_L_216 {Γ : jΓ} {b LL : Nat} {xs : Nat → Int32} (E : E_L Γ b LL xs) : jSA Γ qT 216 (o_aload 0) 1 := by
  obtain ⟨E1, E2, ⟨nm, C⟩, S⟩ := E
  exact so_aload_n C rfl dL_law_216
theorem oo_L_217 {Γ : jΓ} {b LL : Nat} {xs : Nat → Int32} (E : E_L Γ b LL xs) : jSA Γ qT 217 (o_iload 3) 1 := by
  obtain ⟨E1, E2, ⟨nm, C⟩, S⟩ := E
  exact so_iload_n C rfl dL_law_217
theorem oo_L_218 {Γ : jΓ} {b LL : Nat} {xs : Nat → Int32} (E : E_L Γ b LL xs) : jSA Γ qT 218 (o_ic (2)) 1 := by
  obtain ⟨E1, E2, ⟨nm, C⟩, S⟩ := E
  exact so_iconst C rfl dL_law_218
theorem oo_L_219 {Γ : jΓ} {b LL : Nat} {xs : Nat → Int32} (E : E_L Γ b LL xs) : jSA Γ qT 219 (o_iadd) 1 := by
  obtain ⟨E1, E2, ⟨nm, C⟩, S⟩ := E
  exact so_iadd C dL_law_219
theorem oo_L_220 {Γ : jΓ} {b LL : Nat} {xs : Nat → Int32} (E : E_L Γ b LL xs) : jSA Γ qT 220 (o_sld LL xs) 1 := by
  obtain ⟨E1, E2, ⟨nm, C⟩, S⟩ := E
  exact so_sld C S dL_law_220
theorem oo_L_221 {Γ : jΓ} {b LL : Nat} {xs : Nat → Int32} (E : E_L Γ b LL xs) : jSA Γ qT 221 (o_i2l) 1 := by
  obtain ⟨E1, E2, ⟨nm, C⟩, S⟩ := E
  exact so_i2l C dL_law_221
theorem oo_L_222 {Γ : jΓ} {b LL : Nat} {xs : Nat → Int32} (E : E_L Γ b LL xs) : jSA Γ qT 222 (o_lc (4294967295)) 3 := by
  obtain ⟨E1, E2, ⟨nm, C⟩, S⟩ := E
  exact so_ldc2 C (by decide +kernel) dL_law_222
theorem oo_L_225 {Γ : jΓ} {b LL : Nat} {xs : Nat → Int32} (E : E_L Γ b LL xs) : jSA Γ qT 225 (o_land) 1 := by
  obtain ⟨E1, E2, ⟨nm, C⟩, S⟩ := E
  exact so_land C dL_law_225
theorem oo_L_226 {Γ : jΓ} {b LL : Nat} {xs : Nat → Int32} (E : E_L Γ b LL xs) : jSA Γ qT 226 (o_lor) 1 := by
  obtain ⟨E1, E2, ⟨nm, C⟩, S⟩ := E
  exact so_lor C dL_law_226
theorem oo_L_227 {Γ : jΓ} {b LL : Nat} {xs : Nat → Int32} (E : E_L Γ b LL xs) : jSA Γ qT 227 (o_aload 0) 1 := by
  obtain ⟨E1, E2, ⟨nm, C⟩, S⟩ := E
  exact so_aload_n C rfl dL_law_227
theorem oo_L_228 {Γ : jΓ} {b LL : Nat} {xs : Nat → Int32} (E : E_L Γ b LL xs) : jSA Γ qT 228 (o_iload 3) 1 := by
  obtain ⟨E1, E2, ⟨nm, C⟩, S⟩ := E
  exact so_iload_n C rfl dL_law_228
theorem oo_L_229 {Γ : jΓ} {b LL : Nat} {xs : Nat → Int32} (E : E_L Γ b LL xs) : jSA Γ qT 229 (o_ic (3)) 1 := by
  obtain ⟨E1, E2, ⟨nm, C⟩, S⟩ := E
  exact so_iconst C rfl dL_law_229
theorem oo_L_230 {Γ : jΓ} {b LL : Nat} {xs : Nat → Int32} (E : E_L Γ b LL xs) : jSA Γ qT 230 (o_iadd) 1 := by
  obtain ⟨E1, E2, ⟨nm, C⟩, S⟩ := E
  exact so_iadd C dL_law_230
theorem oo_L_231 {Γ : jΓ} {b LL : Nat} {xs : Nat → Int32} (E : E_L Γ b LL xs) : jSA Γ qT 231 (o_sld LL xs) 1 := by
  obtain ⟨E1, E2, ⟨nm, C⟩, S⟩ := E
  exact so_sld C S dL_law_231
theorem oo_L_232 {Γ : jΓ} {b LL : Nat} {xs : Nat → Int32} (E : E_L Γ b LL xs) : jSA Γ qT 232 (o_callV 3 7 T_X7_type) 3 := by
  obtain ⟨E1, E2, ⟨nm, C⟩, S⟩ := E
  exact so_callV C (ci := 7) (by rw [E2]; rfl) gL_law_X7_type (by decide +kernel) rfl (by rw [E2]; exact m_X7_type _) (by decide) (by decide) dL_law_232
theorem oo_L_235 {Γ : jΓ} {b LL : Nat} {xs : Nat → Int32} (E : E_L Γ b LL xs) : jSA Γ qT 235 (o_iceq 949) 3 := by
  obtain ⟨E1, E2, ⟨nm, C⟩, S⟩ := E
  exact so_iceq C (by decide) dL_law_235
theorem oo_L_238 {Γ : jΓ} {b LL : Nat} {xs : Nat → Int32} (E : E_L Γ b LL xs) : jSA Γ qT 238 (o_ic (0)) 1 := by
  obtain ⟨E1, E2, ⟨nm, C⟩, S⟩ := E
  exact so_iconst C rfl dL_law_238
theorem ok_L_206 {Γ : jΓ} {b LL : Nat} {xs : Nat → Int32} (E : E_L Γ b LL xs) : jSS Γ qT 206 (sg_L_206 LL xs) := ⟨oo_L_206 E, oo_L_207 E, oo_L_208 E, oo_L_209 E, oo_L_210 E, oo_L_211 E, oo_L_212 E, oo_L_213 E, oo_L_215 E, oo_L_216 E, oo_L_217 E, oo_L_218 E, oo_L_219 E, oo_L_220 E, oo_L_221 E, oo_L_222 E, oo_L_225 E, oo_L_226 E, oo_L_227 E, oo_L_228 E, oo_L_229 E, oo_L_230 E, oo_L_231 E, oo_L_232 E, oo_L_235 E, oo_L_238 E, trivial⟩
theorem H_L_206 {Γ : jΓ} {b LL : Nat} {xs : Nat → Int32} (E : E_L Γ b LL xs) : jHd cd_L (jG Γ) qT (sg_L_206 LL xs) 206 := fun n L st K h ce sl => jwp_ok (cd := cd_L) (Γ := Γ) (Q := qT) okc_L n (sg_L_206 LL xs) 206 (ok_L_206 E) L st K h ce sl
theorem oo_L_240 {Γ : jΓ} {b LL : Nat} {xs : Nat → Int32} (E : E_L Γ b LL xs) : jSA Γ qT 240 (o_aload 1) 1 := by
  obtain ⟨E1, E2, ⟨nm, C⟩, S⟩ := E
  exact so_aload_n C rfl dL_law_240
theorem oo_L_241 {Γ : jΓ} {b LL : Nat} {xs : Nat → Int32} (E : E_L Γ b LL xs) : jSA Γ qT 241 (o_aload 0) 1 := by
  obtain ⟨E1, E2, ⟨nm, C⟩, S⟩ := E
  exact so_aload_n C rfl dL_law_241
theorem oo_L_242 {Γ : jΓ} {b LL : Nat} {xs : Nat → Int32} (E : E_L Γ b LL xs) : jSA Γ qT 242 (o_iload 3) 1 := by
  obtain ⟨E1, E2, ⟨nm, C⟩, S⟩ := E
  exact so_iload_n C rfl dL_law_242
theorem oo_L_243 {Γ : jΓ} {b LL : Nat} {xs : Nat → Int32} (E : E_L Γ b LL xs) : jSA Γ qT 243 (o_ic (1)) 1 := by
  obtain ⟨E1, E2, ⟨nm, C⟩, S⟩ := E
  exact so_iconst C rfl dL_law_243
theorem oo_L_244 {Γ : jΓ} {b LL : Nat} {xs : Nat → Int32} (E : E_L Γ b LL xs) : jSA Γ qT 244 (o_iadd) 1 := by
  obtain ⟨E1, E2, ⟨nm, C⟩, S⟩ := E
  exact so_iadd C dL_law_244
theorem oo_L_245 {Γ : jΓ} {b LL : Nat} {xs : Nat → Int32} (E : E_L Γ b LL xs) : jSA Γ qT 245 (o_sld LL xs) 1 := by
  obtain ⟨E1, E2, ⟨nm, C⟩, S⟩ := E
  exact so_sld C S dL_law_245
theorem oo_L_246 {Γ : jΓ} {b LL : Nat} {xs : Nat → Int32} (E : E_L Γ b LL xs) : jSA Γ qT 246 (o_callV 2 6 T_X6_rule) 3 := by
  obtain ⟨E1, E2, ⟨nm, C⟩, S⟩ := E
  exact so_callV C (ci := 6) (by rw [E2]; rfl) gL_law_X6_rule (by decide +kernel) rfl (by rw [E2]; exact m_X6_rule _) (by decide) (by decide) dL_law_246
theorem ok_L_240 {Γ : jΓ} {b LL : Nat} {xs : Nat → Int32} (E : E_L Γ b LL xs) : jSS Γ qT 240 (sg_L_240 LL xs) := ⟨oo_L_240 E, oo_L_241 E, oo_L_242 E, oo_L_243 E, oo_L_244 E, oo_L_245 E, oo_L_246 E, trivial⟩
theorem H_L_240 {Γ : jΓ} {b LL : Nat} {xs : Nat → Int32} (E : E_L Γ b LL xs) : jHd cd_L (jG Γ) qT (sg_L_240 LL xs) 240 := fun n L st K h ce sl => jwp_ok (cd := cd_L) (Γ := Γ) (Q := qT) okc_L n (sg_L_240 LL xs) 240 (ok_L_240 E) L st K h ce sl
theorem oo_L_249 {Γ : jΓ} {b LL : Nat} {xs : Nat → Int32} (E : E_L Γ b LL xs) : jSA Γ qT 249 (o_aload 2) 1 := by
  obtain ⟨E1, E2, ⟨nm, C⟩, S⟩ := E
  exact so_aload_n C rfl dL_law_249
theorem oo_L_250 {Γ : jΓ} {b LL : Nat} {xs : Nat → Int32} (E : E_L Γ b LL xs) : jSA Γ qT 250 (o_aload 0) 1 := by
  obtain ⟨E1, E2, ⟨nm, C⟩, S⟩ := E
  exact so_aload_n C rfl dL_law_250
theorem oo_L_251 {Γ : jΓ} {b LL : Nat} {xs : Nat → Int32} (E : E_L Γ b LL xs) : jSA Γ qT 251 (o_iload 3) 1 := by
  obtain ⟨E1, E2, ⟨nm, C⟩, S⟩ := E
  exact so_iload_n C rfl dL_law_251
theorem oo_L_252 {Γ : jΓ} {b LL : Nat} {xs : Nat → Int32} (E : E_L Γ b LL xs) : jSA Γ qT 252 (o_ic (1)) 1 := by
  obtain ⟨E1, E2, ⟨nm, C⟩, S⟩ := E
  exact so_iconst C rfl dL_law_252
theorem oo_L_253 {Γ : jΓ} {b LL : Nat} {xs : Nat → Int32} (E : E_L Γ b LL xs) : jSA Γ qT 253 (o_iadd) 1 := by
  obtain ⟨E1, E2, ⟨nm, C⟩, S⟩ := E
  exact so_iadd C dL_law_253
theorem oo_L_254 {Γ : jΓ} {b LL : Nat} {xs : Nat → Int32} (E : E_L Γ b LL xs) : jSA Γ qT 254 (o_sld LL xs) 1 := by
  obtain ⟨E1, E2, ⟨nm, C⟩, S⟩ := E
  exact so_sld C S dL_law_254
theorem oo_L_255 {Γ : jΓ} {b LL : Nat} {xs : Nat → Int32} (E : E_L Γ b LL xs) : jSA Γ qT 255 (o_callV 2 7 T_X7_rule) 3 := by
  obtain ⟨E1, E2, ⟨nm, C⟩, S⟩ := E
  exact so_callV C (ci := 7) (by rw [E2]; rfl) gL_law_X7_rule (by decide +kernel) rfl (by rw [E2]; exact m_X7_rule _) (by decide) (by decide) dL_law_255
theorem oo_L_258 {Γ : jΓ} {b LL : Nat} {xs : Nat → Int32} (E : E_L Γ b LL xs) : jSA Γ qT 258 (o_iceq 949) 3 := by
  obtain ⟨E1, E2, ⟨nm, C⟩, S⟩ := E
  exact so_iceq C (by decide) dL_law_258
theorem oo_L_261 {Γ : jΓ} {b LL : Nat} {xs : Nat → Int32} (E : E_L Γ b LL xs) : jSA Γ qT 261 (o_ic (0)) 1 := by
  obtain ⟨E1, E2, ⟨nm, C⟩, S⟩ := E
  exact so_iconst C rfl dL_law_261
theorem ok_L_249 {Γ : jΓ} {b LL : Nat} {xs : Nat → Int32} (E : E_L Γ b LL xs) : jSS Γ qT 249 (sg_L_249 LL xs) := ⟨oo_L_249 E, oo_L_250 E, oo_L_251 E, oo_L_252 E, oo_L_253 E, oo_L_254 E, oo_L_255 E, oo_L_258 E, oo_L_261 E, trivial⟩
theorem H_L_249 {Γ : jΓ} {b LL : Nat} {xs : Nat → Int32} (E : E_L Γ b LL xs) : jHd cd_L (jG Γ) qT (sg_L_249 LL xs) 249 := fun n L st K h ce sl => jwp_ok (cd := cd_L) (Γ := Γ) (Q := qT) okc_L n (sg_L_249 LL xs) 249 (ok_L_249 E) L st K h ce sl
theorem oo_L_263 {Γ : jΓ} {b LL : Nat} {xs : Nat → Int32} (E : E_L Γ b LL xs) : jSA Γ qT 263 (o_aload 1) 1 := by
  obtain ⟨E1, E2, ⟨nm, C⟩, S⟩ := E
  exact so_aload_n C rfl dL_law_263
theorem oo_L_264 {Γ : jΓ} {b LL : Nat} {xs : Nat → Int32} (E : E_L Γ b LL xs) : jSA Γ qT 264 (o_aload 0) 1 := by
  obtain ⟨E1, E2, ⟨nm, C⟩, S⟩ := E
  exact so_aload_n C rfl dL_law_264
theorem oo_L_265 {Γ : jΓ} {b LL : Nat} {xs : Nat → Int32} (E : E_L Γ b LL xs) : jSA Γ qT 265 (o_iload 3) 1 := by
  obtain ⟨E1, E2, ⟨nm, C⟩, S⟩ := E
  exact so_iload_n C rfl dL_law_265
theorem oo_L_266 {Γ : jΓ} {b LL : Nat} {xs : Nat → Int32} (E : E_L Γ b LL xs) : jSA Γ qT 266 (o_ic (1)) 1 := by
  obtain ⟨E1, E2, ⟨nm, C⟩, S⟩ := E
  exact so_iconst C rfl dL_law_266
theorem oo_L_267 {Γ : jΓ} {b LL : Nat} {xs : Nat → Int32} (E : E_L Γ b LL xs) : jSA Γ qT 267 (o_iadd) 1 := by
  obtain ⟨E1, E2, ⟨nm, C⟩, S⟩ := E
  exact so_iadd C dL_law_267
theorem oo_L_268 {Γ : jΓ} {b LL : Nat} {xs : Nat → Int32} (E : E_L Γ b LL xs) : jSA Γ qT 268 (o_sld LL xs) 1 := by
  obtain ⟨E1, E2, ⟨nm, C⟩, S⟩ := E
  exact so_sld C S dL_law_268
theorem oo_L_269 {Γ : jΓ} {b LL : Nat} {xs : Nat → Int32} (E : E_L Γ b LL xs) : jSA Γ qT 269 (o_aload 0) 1 := by
  obtain ⟨E1, E2, ⟨nm, C⟩, S⟩ := E
  exact so_aload_n C rfl dL_law_269
theorem oo_L_270 {Γ : jΓ} {b LL : Nat} {xs : Nat → Int32} (E : E_L Γ b LL xs) : jSA Γ qT 270 (o_iload 3) 1 := by
  obtain ⟨E1, E2, ⟨nm, C⟩, S⟩ := E
  exact so_iload_n C rfl dL_law_270
theorem oo_L_271 {Γ : jΓ} {b LL : Nat} {xs : Nat → Int32} (E : E_L Γ b LL xs) : jSA Γ qT 271 (o_ic (2)) 1 := by
  obtain ⟨E1, E2, ⟨nm, C⟩, S⟩ := E
  exact so_iconst C rfl dL_law_271
theorem oo_L_272 {Γ : jΓ} {b LL : Nat} {xs : Nat → Int32} (E : E_L Γ b LL xs) : jSA Γ qT 272 (o_iadd) 1 := by
  obtain ⟨E1, E2, ⟨nm, C⟩, S⟩ := E
  exact so_iadd C dL_law_272
theorem oo_L_273 {Γ : jΓ} {b LL : Nat} {xs : Nat → Int32} (E : E_L Γ b LL xs) : jSA Γ qT 273 (o_sld LL xs) 1 := by
  obtain ⟨E1, E2, ⟨nm, C⟩, S⟩ := E
  exact so_sld C S dL_law_273
theorem oo_L_274 {Γ : jΓ} {b LL : Nat} {xs : Nat → Int32} (E : E_L Γ b LL xs) : jSA Γ qT 274 (o_aload 0) 1 := by
  obtain ⟨E1, E2, ⟨nm, C⟩, S⟩ := E
  exact so_aload_n C rfl dL_law_274
theorem oo_L_275 {Γ : jΓ} {b LL : Nat} {xs : Nat → Int32} (E : E_L Γ b LL xs) : jSA Γ qT 275 (o_iload 3) 1 := by
  obtain ⟨E1, E2, ⟨nm, C⟩, S⟩ := E
  exact so_iload_n C rfl dL_law_275
theorem oo_L_276 {Γ : jΓ} {b LL : Nat} {xs : Nat → Int32} (E : E_L Γ b LL xs) : jSA Γ qT 276 (o_ic (3)) 1 := by
  obtain ⟨E1, E2, ⟨nm, C⟩, S⟩ := E
  exact so_iconst C rfl dL_law_276
theorem oo_L_277 {Γ : jΓ} {b LL : Nat} {xs : Nat → Int32} (E : E_L Γ b LL xs) : jSA Γ qT 277 (o_iadd) 1 := by
  obtain ⟨E1, E2, ⟨nm, C⟩, S⟩ := E
  exact so_iadd C dL_law_277
theorem oo_L_278 {Γ : jΓ} {b LL : Nat} {xs : Nat → Int32} (E : E_L Γ b LL xs) : jSA Γ qT 278 (o_sld LL xs) 1 := by
  obtain ⟨E1, E2, ⟨nm, C⟩, S⟩ := E
  exact so_sld C S dL_law_278
theorem oo_L_279 {Γ : jΓ} {b LL : Nat} {xs : Nat → Int32} (E : E_L Γ b LL xs) : jSA Γ qT 279 (o_aload 0) 1 := by
  obtain ⟨E1, E2, ⟨nm, C⟩, S⟩ := E
  exact so_aload_n C rfl dL_law_279
theorem oo_L_280 {Γ : jΓ} {b LL : Nat} {xs : Nat → Int32} (E : E_L Γ b LL xs) : jSA Γ qT 280 (o_iload 3) 1 := by
  obtain ⟨E1, E2, ⟨nm, C⟩, S⟩ := E
  exact so_iload_n C rfl dL_law_280
theorem oo_L_281 {Γ : jΓ} {b LL : Nat} {xs : Nat → Int32} (E : E_L Γ b LL xs) : jSA Γ qT 281 (o_ic (4)) 1 := by
  obtain ⟨E1, E2, ⟨nm, C⟩, S⟩ := E
  exact so_iconst C rfl dL_law_281
theorem oo_L_282 {Γ : jΓ} {b LL : Nat} {xs : Nat → Int32} (E : E_L Γ b LL xs) : jSA Γ qT 282 (o_iadd) 1 := by
  obtain ⟨E1, E2, ⟨nm, C⟩, S⟩ := E
  exact so_iadd C dL_law_282
theorem oo_L_283 {Γ : jΓ} {b LL : Nat} {xs : Nat → Int32} (E : E_L Γ b LL xs) : jSA Γ qT 283 (o_sld LL xs) 1 := by
  obtain ⟨E1, E2, ⟨nm, C⟩, S⟩ := E
  exact so_sld C S dL_law_283
theorem oo_L_284 {Γ : jΓ} {b LL : Nat} {xs : Nat → Int32} (E : E_L Γ b LL xs) : jSA Γ qT 284 (o_callV 5 6 T_X6_ant) 3 := by
  obtain ⟨E1, E2, ⟨nm, C⟩, S⟩ := E
  exact so_callV C (ci := 6) (by rw [E2]; rfl) gL_law_X6_ant (by decide +kernel) rfl (by rw [E2]; exact m_X6_ant _) (by decide) (by decide) dL_law_284
theorem ok_L_263 {Γ : jΓ} {b LL : Nat} {xs : Nat → Int32} (E : E_L Γ b LL xs) : jSS Γ qT 263 (sg_L_263 LL xs) := ⟨oo_L_263 E, oo_L_264 E, oo_L_265 E, oo_L_266 E, oo_L_267 E, oo_L_268 E, oo_L_269 E, oo_L_270 E, oo_L_271 E, oo_L_272 E, oo_L_273 E, oo_L_274 E, oo_L_275 E, oo_L_276 E, oo_L_277 E, oo_L_278 E, oo_L_279 E, oo_L_280 E, oo_L_281 E, oo_L_282 E, oo_L_283 E, oo_L_284 E, trivial⟩
theorem H_L_263 {Γ : jΓ} {b LL : Nat} {xs : Nat → Int32} (E : E_L Γ b LL xs) : jHd cd_L (jG Γ) qT (sg_L_263 LL xs) 263 := fun n L st K h ce sl => jwp_ok (cd := cd_L) (Γ := Γ) (Q := qT) okc_L n (sg_L_263 LL xs) 263 (ok_L_263 E) L st K h ce sl
theorem oo_L_287 {Γ : jΓ} {b LL : Nat} {xs : Nat → Int32} (E : E_L Γ b LL xs) : jSA Γ qT 287 (o_aload 2) 1 := by
  obtain ⟨E1, E2, ⟨nm, C⟩, S⟩ := E
  exact so_aload_n C rfl dL_law_287
theorem oo_L_288 {Γ : jΓ} {b LL : Nat} {xs : Nat → Int32} (E : E_L Γ b LL xs) : jSA Γ qT 288 (o_aload 0) 1 := by
  obtain ⟨E1, E2, ⟨nm, C⟩, S⟩ := E
  exact so_aload_n C rfl dL_law_288
theorem oo_L_289 {Γ : jΓ} {b LL : Nat} {xs : Nat → Int32} (E : E_L Γ b LL xs) : jSA Γ qT 289 (o_iload 3) 1 := by
  obtain ⟨E1, E2, ⟨nm, C⟩, S⟩ := E
  exact so_iload_n C rfl dL_law_289
theorem oo_L_290 {Γ : jΓ} {b LL : Nat} {xs : Nat → Int32} (E : E_L Γ b LL xs) : jSA Γ qT 290 (o_ic (1)) 1 := by
  obtain ⟨E1, E2, ⟨nm, C⟩, S⟩ := E
  exact so_iconst C rfl dL_law_290
theorem oo_L_291 {Γ : jΓ} {b LL : Nat} {xs : Nat → Int32} (E : E_L Γ b LL xs) : jSA Γ qT 291 (o_iadd) 1 := by
  obtain ⟨E1, E2, ⟨nm, C⟩, S⟩ := E
  exact so_iadd C dL_law_291
theorem oo_L_292 {Γ : jΓ} {b LL : Nat} {xs : Nat → Int32} (E : E_L Γ b LL xs) : jSA Γ qT 292 (o_sld LL xs) 1 := by
  obtain ⟨E1, E2, ⟨nm, C⟩, S⟩ := E
  exact so_sld C S dL_law_292
theorem oo_L_293 {Γ : jΓ} {b LL : Nat} {xs : Nat → Int32} (E : E_L Γ b LL xs) : jSA Γ qT 293 (o_aload 0) 1 := by
  obtain ⟨E1, E2, ⟨nm, C⟩, S⟩ := E
  exact so_aload_n C rfl dL_law_293
theorem oo_L_294 {Γ : jΓ} {b LL : Nat} {xs : Nat → Int32} (E : E_L Γ b LL xs) : jSA Γ qT 294 (o_iload 3) 1 := by
  obtain ⟨E1, E2, ⟨nm, C⟩, S⟩ := E
  exact so_iload_n C rfl dL_law_294
theorem oo_L_295 {Γ : jΓ} {b LL : Nat} {xs : Nat → Int32} (E : E_L Γ b LL xs) : jSA Γ qT 295 (o_ic (2)) 1 := by
  obtain ⟨E1, E2, ⟨nm, C⟩, S⟩ := E
  exact so_iconst C rfl dL_law_295
theorem oo_L_296 {Γ : jΓ} {b LL : Nat} {xs : Nat → Int32} (E : E_L Γ b LL xs) : jSA Γ qT 296 (o_iadd) 1 := by
  obtain ⟨E1, E2, ⟨nm, C⟩, S⟩ := E
  exact so_iadd C dL_law_296
theorem oo_L_297 {Γ : jΓ} {b LL : Nat} {xs : Nat → Int32} (E : E_L Γ b LL xs) : jSA Γ qT 297 (o_sld LL xs) 1 := by
  obtain ⟨E1, E2, ⟨nm, C⟩, S⟩ := E
  exact so_sld C S dL_law_297
theorem oo_L_298 {Γ : jΓ} {b LL : Nat} {xs : Nat → Int32} (E : E_L Γ b LL xs) : jSA Γ qT 298 (o_aload 0) 1 := by
  obtain ⟨E1, E2, ⟨nm, C⟩, S⟩ := E
  exact so_aload_n C rfl dL_law_298
theorem oo_L_299 {Γ : jΓ} {b LL : Nat} {xs : Nat → Int32} (E : E_L Γ b LL xs) : jSA Γ qT 299 (o_iload 3) 1 := by
  obtain ⟨E1, E2, ⟨nm, C⟩, S⟩ := E
  exact so_iload_n C rfl dL_law_299
theorem oo_L_300 {Γ : jΓ} {b LL : Nat} {xs : Nat → Int32} (E : E_L Γ b LL xs) : jSA Γ qT 300 (o_ic (3)) 1 := by
  obtain ⟨E1, E2, ⟨nm, C⟩, S⟩ := E
  exact so_iconst C rfl dL_law_300
theorem oo_L_301 {Γ : jΓ} {b LL : Nat} {xs : Nat → Int32} (E : E_L Γ b LL xs) : jSA Γ qT 301 (o_iadd) 1 := by
  obtain ⟨E1, E2, ⟨nm, C⟩, S⟩ := E
  exact so_iadd C dL_law_301
theorem oo_L_302 {Γ : jΓ} {b LL : Nat} {xs : Nat → Int32} (E : E_L Γ b LL xs) : jSA Γ qT 302 (o_sld LL xs) 1 := by
  obtain ⟨E1, E2, ⟨nm, C⟩, S⟩ := E
  exact so_sld C S dL_law_302
theorem oo_L_303 {Γ : jΓ} {b LL : Nat} {xs : Nat → Int32} (E : E_L Γ b LL xs) : jSA Γ qT 303 (o_aload 0) 1 := by
  obtain ⟨E1, E2, ⟨nm, C⟩, S⟩ := E
  exact so_aload_n C rfl dL_law_303
theorem oo_L_304 {Γ : jΓ} {b LL : Nat} {xs : Nat → Int32} (E : E_L Γ b LL xs) : jSA Γ qT 304 (o_iload 3) 1 := by
  obtain ⟨E1, E2, ⟨nm, C⟩, S⟩ := E
  exact so_iload_n C rfl dL_law_304
theorem oo_L_305 {Γ : jΓ} {b LL : Nat} {xs : Nat → Int32} (E : E_L Γ b LL xs) : jSA Γ qT 305 (o_ic (4)) 1 := by
  obtain ⟨E1, E2, ⟨nm, C⟩, S⟩ := E
  exact so_iconst C rfl dL_law_305
theorem oo_L_306 {Γ : jΓ} {b LL : Nat} {xs : Nat → Int32} (E : E_L Γ b LL xs) : jSA Γ qT 306 (o_iadd) 1 := by
  obtain ⟨E1, E2, ⟨nm, C⟩, S⟩ := E
  exact so_iadd C dL_law_306
theorem oo_L_307 {Γ : jΓ} {b LL : Nat} {xs : Nat → Int32} (E : E_L Γ b LL xs) : jSA Γ qT 307 (o_sld LL xs) 1 := by
  obtain ⟨E1, E2, ⟨nm, C⟩, S⟩ := E
  exact so_sld C S dL_law_307
theorem oo_L_308 {Γ : jΓ} {b LL : Nat} {xs : Nat → Int32} (E : E_L Γ b LL xs) : jSA Γ qT 308 (o_callV 5 7 T_X7_ant) 3 := by
  obtain ⟨E1, E2, ⟨nm, C⟩, S⟩ := E
  exact so_callV C (ci := 7) (by rw [E2]; rfl) gL_law_X7_ant (by decide +kernel) rfl (by rw [E2]; exact m_X7_ant _) (by decide) (by decide) dL_law_308
theorem oo_L_311 {Γ : jΓ} {b LL : Nat} {xs : Nat → Int32} (E : E_L Γ b LL xs) : jSA Γ qT 311 (o_iceq 949) 3 := by
  obtain ⟨E1, E2, ⟨nm, C⟩, S⟩ := E
  exact so_iceq C (by decide) dL_law_311
theorem oo_L_314 {Γ : jΓ} {b LL : Nat} {xs : Nat → Int32} (E : E_L Γ b LL xs) : jSA Γ qT 314 (o_ic (0)) 1 := by
  obtain ⟨E1, E2, ⟨nm, C⟩, S⟩ := E
  exact so_iconst C rfl dL_law_314
theorem ok_L_287 {Γ : jΓ} {b LL : Nat} {xs : Nat → Int32} (E : E_L Γ b LL xs) : jSS Γ qT 287 (sg_L_287 LL xs) := ⟨oo_L_287 E, oo_L_288 E, oo_L_289 E, oo_L_290 E, oo_L_291 E, oo_L_292 E, oo_L_293 E, oo_L_294 E, oo_L_295 E, oo_L_296 E, oo_L_297 E, oo_L_298 E, oo_L_299 E, oo_L_300 E, oo_L_301 E, oo_L_302 E, oo_L_303 E, oo_L_304 E, oo_L_305 E, oo_L_306 E, oo_L_307 E, oo_L_308 E, oo_L_311 E, oo_L_314 E, trivial⟩
theorem H_L_287 {Γ : jΓ} {b LL : Nat} {xs : Nat → Int32} (E : E_L Γ b LL xs) : jHd cd_L (jG Γ) qT (sg_L_287 LL xs) 287 := fun n L st K h ce sl => jwp_ok (cd := cd_L) (Γ := Γ) (Q := qT) okc_L n (sg_L_287 LL xs) 287 (ok_L_287 E) L st K h ce sl
theorem oo_L_316 {Γ : jΓ} {b LL : Nat} {xs : Nat → Int32} (E : E_L Γ b LL xs) : jSA Γ qT 316 (o_aload 1) 1 := by
  obtain ⟨E1, E2, ⟨nm, C⟩, S⟩ := E
  exact so_aload_n C rfl dL_law_316
theorem oo_L_317 {Γ : jΓ} {b LL : Nat} {xs : Nat → Int32} (E : E_L Γ b LL xs) : jSA Γ qT 317 (o_callV 1 6 T_X6_less) 3 := by
  obtain ⟨E1, E2, ⟨nm, C⟩, S⟩ := E
  exact so_callV C (ci := 6) (by rw [E2]; rfl) gL_law_X6_less (by decide +kernel) rfl (by rw [E2]; exact m_X6_less _) (by decide) (by decide) dL_law_317
theorem ok_L_316 {Γ : jΓ} {b LL : Nat} {xs : Nat → Int32} (E : E_L Γ b LL xs) : jSS Γ qT 316 (sg_L_316 LL xs) := ⟨oo_L_316 E, oo_L_317 E, trivial⟩
theorem H_L_316 {Γ : jΓ} {b LL : Nat} {xs : Nat → Int32} (E : E_L Γ b LL xs) : jHd cd_L (jG Γ) qT (sg_L_316 LL xs) 316 := fun n L st K h ce sl => jwp_ok (cd := cd_L) (Γ := Γ) (Q := qT) okc_L n (sg_L_316 LL xs) 316 (ok_L_316 E) L st K h ce sl
theorem oo_L_320 {Γ : jΓ} {b LL : Nat} {xs : Nat → Int32} (E : E_L Γ b LL xs) : jSA Γ qT 320 (o_aload 2) 1 := by
  obtain ⟨E1, E2, ⟨nm, C⟩, S⟩ := E
  exact so_aload_n C rfl dL_law_320
theorem oo_L_321 {Γ : jΓ} {b LL : Nat} {xs : Nat → Int32} (E : E_L Γ b LL xs) : jSA Γ qT 321 (o_callV 1 7 T_X7_less) 3 := by
  obtain ⟨E1, E2, ⟨nm, C⟩, S⟩ := E
  exact so_callV C (ci := 7) (by rw [E2]; rfl) gL_law_X7_less (by decide +kernel) rfl (by rw [E2]; exact m_X7_less _) (by decide) (by decide) dL_law_321
theorem oo_L_324 {Γ : jΓ} {b LL : Nat} {xs : Nat → Int32} (E : E_L Γ b LL xs) : jSA Γ qT 324 (o_iceq 949) 3 := by
  obtain ⟨E1, E2, ⟨nm, C⟩, S⟩ := E
  exact so_iceq C (by decide) dL_law_324
theorem oo_L_327 {Γ : jΓ} {b LL : Nat} {xs : Nat → Int32} (E : E_L Γ b LL xs) : jSA Γ qT 327 (o_ic (0)) 1 := by
  obtain ⟨E1, E2, ⟨nm, C⟩, S⟩ := E
  exact so_iconst C rfl dL_law_327
theorem ok_L_320 {Γ : jΓ} {b LL : Nat} {xs : Nat → Int32} (E : E_L Γ b LL xs) : jSS Γ qT 320 (sg_L_320 LL xs) := ⟨oo_L_320 E, oo_L_321 E, oo_L_324 E, oo_L_327 E, trivial⟩
theorem H_L_320 {Γ : jΓ} {b LL : Nat} {xs : Nat → Int32} (E : E_L Γ b LL xs) : jHd cd_L (jG Γ) qT (sg_L_320 LL xs) 320 := fun n L st K h ce sl => jwp_ok (cd := cd_L) (Γ := Γ) (Q := qT) okc_L n (sg_L_320 LL xs) 320 (ok_L_320 E) L st K h ce sl
theorem oo_L_329 {Γ : jΓ} {b LL : Nat} {xs : Nat → Int32} (E : E_L Γ b LL xs) : jSA Γ qT 329 (o_aload 1) 1 := by
  obtain ⟨E1, E2, ⟨nm, C⟩, S⟩ := E
  exact so_aload_n C rfl dL_law_329
theorem oo_L_330 {Γ : jΓ} {b LL : Nat} {xs : Nat → Int32} (E : E_L Γ b LL xs) : jSA Γ qT 330 (o_aload 0) 1 := by
  obtain ⟨E1, E2, ⟨nm, C⟩, S⟩ := E
  exact so_aload_n C rfl dL_law_330
theorem oo_L_331 {Γ : jΓ} {b LL : Nat} {xs : Nat → Int32} (E : E_L Γ b LL xs) : jSA Γ qT 331 (o_iload 3) 1 := by
  obtain ⟨E1, E2, ⟨nm, C⟩, S⟩ := E
  exact so_iload_n C rfl dL_law_331
theorem oo_L_332 {Γ : jΓ} {b LL : Nat} {xs : Nat → Int32} (E : E_L Γ b LL xs) : jSA Γ qT 332 (o_ic (1)) 1 := by
  obtain ⟨E1, E2, ⟨nm, C⟩, S⟩ := E
  exact so_iconst C rfl dL_law_332
theorem oo_L_333 {Γ : jΓ} {b LL : Nat} {xs : Nat → Int32} (E : E_L Γ b LL xs) : jSA Γ qT 333 (o_iadd) 1 := by
  obtain ⟨E1, E2, ⟨nm, C⟩, S⟩ := E
  exact so_iadd C dL_law_333
theorem oo_L_334 {Γ : jΓ} {b LL : Nat} {xs : Nat → Int32} (E : E_L Γ b LL xs) : jSA Γ qT 334 (o_sld LL xs) 1 := by
  obtain ⟨E1, E2, ⟨nm, C⟩, S⟩ := E
  exact so_sld C S dL_law_334
theorem oo_L_335 {Γ : jΓ} {b LL : Nat} {xs : Nat → Int32} (E : E_L Γ b LL xs) : jSA Γ qT 335 (o_aload 0) 1 := by
  obtain ⟨E1, E2, ⟨nm, C⟩, S⟩ := E
  exact so_aload_n C rfl dL_law_335
theorem oo_L_336 {Γ : jΓ} {b LL : Nat} {xs : Nat → Int32} (E : E_L Γ b LL xs) : jSA Γ qT 336 (o_iload 3) 1 := by
  obtain ⟨E1, E2, ⟨nm, C⟩, S⟩ := E
  exact so_iload_n C rfl dL_law_336
theorem oo_L_337 {Γ : jΓ} {b LL : Nat} {xs : Nat → Int32} (E : E_L Γ b LL xs) : jSA Γ qT 337 (o_ic (2)) 1 := by
  obtain ⟨E1, E2, ⟨nm, C⟩, S⟩ := E
  exact so_iconst C rfl dL_law_337
theorem oo_L_338 {Γ : jΓ} {b LL : Nat} {xs : Nat → Int32} (E : E_L Γ b LL xs) : jSA Γ qT 338 (o_iadd) 1 := by
  obtain ⟨E1, E2, ⟨nm, C⟩, S⟩ := E
  exact so_iadd C dL_law_338
theorem oo_L_339 {Γ : jΓ} {b LL : Nat} {xs : Nat → Int32} (E : E_L Γ b LL xs) : jSA Γ qT 339 (o_sld LL xs) 1 := by
  obtain ⟨E1, E2, ⟨nm, C⟩, S⟩ := E
  exact so_sld C S dL_law_339
theorem oo_L_340 {Γ : jΓ} {b LL : Nat} {xs : Nat → Int32} (E : E_L Γ b LL xs) : jSA Γ qT 340 (o_aload 0) 1 := by
  obtain ⟨E1, E2, ⟨nm, C⟩, S⟩ := E
  exact so_aload_n C rfl dL_law_340
theorem oo_L_341 {Γ : jΓ} {b LL : Nat} {xs : Nat → Int32} (E : E_L Γ b LL xs) : jSA Γ qT 341 (o_iload 3) 1 := by
  obtain ⟨E1, E2, ⟨nm, C⟩, S⟩ := E
  exact so_iload_n C rfl dL_law_341
theorem oo_L_342 {Γ : jΓ} {b LL : Nat} {xs : Nat → Int32} (E : E_L Γ b LL xs) : jSA Γ qT 342 (o_ic (3)) 1 := by
  obtain ⟨E1, E2, ⟨nm, C⟩, S⟩ := E
  exact so_iconst C rfl dL_law_342
theorem oo_L_343 {Γ : jΓ} {b LL : Nat} {xs : Nat → Int32} (E : E_L Γ b LL xs) : jSA Γ qT 343 (o_iadd) 1 := by
  obtain ⟨E1, E2, ⟨nm, C⟩, S⟩ := E
  exact so_iadd C dL_law_343
theorem oo_L_344 {Γ : jΓ} {b LL : Nat} {xs : Nat → Int32} (E : E_L Γ b LL xs) : jSA Γ qT 344 (o_sld LL xs) 1 := by
  obtain ⟨E1, E2, ⟨nm, C⟩, S⟩ := E
  exact so_sld C S dL_law_344
theorem oo_L_345 {Γ : jΓ} {b LL : Nat} {xs : Nat → Int32} (E : E_L Γ b LL xs) : jSA Γ qT 345 (o_callV 4 6 T_X6_paint) 3 := by
  obtain ⟨E1, E2, ⟨nm, C⟩, S⟩ := E
  exact so_callV C (ci := 6) (by rw [E2]; rfl) gL_law_X6_paint (by decide +kernel) rfl (by rw [E2]; exact m_X6_paint _) (by decide) (by decide) dL_law_345
theorem ok_L_329 {Γ : jΓ} {b LL : Nat} {xs : Nat → Int32} (E : E_L Γ b LL xs) : jSS Γ qT 329 (sg_L_329 LL xs) := ⟨oo_L_329 E, oo_L_330 E, oo_L_331 E, oo_L_332 E, oo_L_333 E, oo_L_334 E, oo_L_335 E, oo_L_336 E, oo_L_337 E, oo_L_338 E, oo_L_339 E, oo_L_340 E, oo_L_341 E, oo_L_342 E, oo_L_343 E, oo_L_344 E, oo_L_345 E, trivial⟩
theorem H_L_329 {Γ : jΓ} {b LL : Nat} {xs : Nat → Int32} (E : E_L Γ b LL xs) : jHd cd_L (jG Γ) qT (sg_L_329 LL xs) 329 := fun n L st K h ce sl => jwp_ok (cd := cd_L) (Γ := Γ) (Q := qT) okc_L n (sg_L_329 LL xs) 329 (ok_L_329 E) L st K h ce sl
theorem oo_L_348 {Γ : jΓ} {b LL : Nat} {xs : Nat → Int32} (E : E_L Γ b LL xs) : jSA Γ qT 348 (o_aload 2) 1 := by
  obtain ⟨E1, E2, ⟨nm, C⟩, S⟩ := E
  exact so_aload_n C rfl dL_law_348
theorem oo_L_349 {Γ : jΓ} {b LL : Nat} {xs : Nat → Int32} (E : E_L Γ b LL xs) : jSA Γ qT 349 (o_aload 0) 1 := by
  obtain ⟨E1, E2, ⟨nm, C⟩, S⟩ := E
  exact so_aload_n C rfl dL_law_349
theorem oo_L_350 {Γ : jΓ} {b LL : Nat} {xs : Nat → Int32} (E : E_L Γ b LL xs) : jSA Γ qT 350 (o_iload 3) 1 := by
  obtain ⟨E1, E2, ⟨nm, C⟩, S⟩ := E
  exact so_iload_n C rfl dL_law_350
theorem oo_L_351 {Γ : jΓ} {b LL : Nat} {xs : Nat → Int32} (E : E_L Γ b LL xs) : jSA Γ qT 351 (o_ic (1)) 1 := by
  obtain ⟨E1, E2, ⟨nm, C⟩, S⟩ := E
  exact so_iconst C rfl dL_law_351
theorem oo_L_352 {Γ : jΓ} {b LL : Nat} {xs : Nat → Int32} (E : E_L Γ b LL xs) : jSA Γ qT 352 (o_iadd) 1 := by
  obtain ⟨E1, E2, ⟨nm, C⟩, S⟩ := E
  exact so_iadd C dL_law_352
theorem oo_L_353 {Γ : jΓ} {b LL : Nat} {xs : Nat → Int32} (E : E_L Γ b LL xs) : jSA Γ qT 353 (o_sld LL xs) 1 := by
  obtain ⟨E1, E2, ⟨nm, C⟩, S⟩ := E
  exact so_sld C S dL_law_353
theorem oo_L_354 {Γ : jΓ} {b LL : Nat} {xs : Nat → Int32} (E : E_L Γ b LL xs) : jSA Γ qT 354 (o_aload 0) 1 := by
  obtain ⟨E1, E2, ⟨nm, C⟩, S⟩ := E
  exact so_aload_n C rfl dL_law_354
theorem oo_L_355 {Γ : jΓ} {b LL : Nat} {xs : Nat → Int32} (E : E_L Γ b LL xs) : jSA Γ qT 355 (o_iload 3) 1 := by
  obtain ⟨E1, E2, ⟨nm, C⟩, S⟩ := E
  exact so_iload_n C rfl dL_law_355
theorem oo_L_356 {Γ : jΓ} {b LL : Nat} {xs : Nat → Int32} (E : E_L Γ b LL xs) : jSA Γ qT 356 (o_ic (2)) 1 := by
  obtain ⟨E1, E2, ⟨nm, C⟩, S⟩ := E
  exact so_iconst C rfl dL_law_356
theorem oo_L_357 {Γ : jΓ} {b LL : Nat} {xs : Nat → Int32} (E : E_L Γ b LL xs) : jSA Γ qT 357 (o_iadd) 1 := by
  obtain ⟨E1, E2, ⟨nm, C⟩, S⟩ := E
  exact so_iadd C dL_law_357
theorem oo_L_358 {Γ : jΓ} {b LL : Nat} {xs : Nat → Int32} (E : E_L Γ b LL xs) : jSA Γ qT 358 (o_sld LL xs) 1 := by
  obtain ⟨E1, E2, ⟨nm, C⟩, S⟩ := E
  exact so_sld C S dL_law_358
theorem oo_L_359 {Γ : jΓ} {b LL : Nat} {xs : Nat → Int32} (E : E_L Γ b LL xs) : jSA Γ qT 359 (o_aload 0) 1 := by
  obtain ⟨E1, E2, ⟨nm, C⟩, S⟩ := E
  exact so_aload_n C rfl dL_law_359
theorem oo_L_360 {Γ : jΓ} {b LL : Nat} {xs : Nat → Int32} (E : E_L Γ b LL xs) : jSA Γ qT 360 (o_iload 3) 1 := by
  obtain ⟨E1, E2, ⟨nm, C⟩, S⟩ := E
  exact so_iload_n C rfl dL_law_360
theorem oo_L_361 {Γ : jΓ} {b LL : Nat} {xs : Nat → Int32} (E : E_L Γ b LL xs) : jSA Γ qT 361 (o_ic (3)) 1 := by
  obtain ⟨E1, E2, ⟨nm, C⟩, S⟩ := E
  exact so_iconst C rfl dL_law_361
theorem oo_L_362 {Γ : jΓ} {b LL : Nat} {xs : Nat → Int32} (E : E_L Γ b LL xs) : jSA Γ qT 362 (o_iadd) 1 := by
  obtain ⟨E1, E2, ⟨nm, C⟩, S⟩ := E
  exact so_iadd C dL_law_362
theorem oo_L_363 {Γ : jΓ} {b LL : Nat} {xs : Nat → Int32} (E : E_L Γ b LL xs) : jSA Γ qT 363 (o_sld LL xs) 1 := by
  obtain ⟨E1, E2, ⟨nm, C⟩, S⟩ := E
  exact so_sld C S dL_law_363
theorem oo_L_364 {Γ : jΓ} {b LL : Nat} {xs : Nat → Int32} (E : E_L Γ b LL xs) : jSA Γ qT 364 (o_callV 4 7 T_X7_paint) 3 := by
  obtain ⟨E1, E2, ⟨nm, C⟩, S⟩ := E
  exact so_callV C (ci := 7) (by rw [E2]; rfl) gL_law_X7_paint (by decide +kernel) rfl (by rw [E2]; exact m_X7_paint _) (by decide) (by decide) dL_law_364
theorem oo_L_367 {Γ : jΓ} {b LL : Nat} {xs : Nat → Int32} (E : E_L Γ b LL xs) : jSA Γ qT 367 (o_iceq 949) 3 := by
  obtain ⟨E1, E2, ⟨nm, C⟩, S⟩ := E
  exact so_iceq C (by decide) dL_law_367
theorem oo_L_370 {Γ : jΓ} {b LL : Nat} {xs : Nat → Int32} (E : E_L Γ b LL xs) : jSA Γ qT 370 (o_ic (0)) 1 := by
  obtain ⟨E1, E2, ⟨nm, C⟩, S⟩ := E
  exact so_iconst C rfl dL_law_370
theorem ok_L_348 {Γ : jΓ} {b LL : Nat} {xs : Nat → Int32} (E : E_L Γ b LL xs) : jSS Γ qT 348 (sg_L_348 LL xs) := ⟨oo_L_348 E, oo_L_349 E, oo_L_350 E, oo_L_351 E, oo_L_352 E, oo_L_353 E, oo_L_354 E, oo_L_355 E, oo_L_356 E, oo_L_357 E, oo_L_358 E, oo_L_359 E, oo_L_360 E, oo_L_361 E, oo_L_362 E, oo_L_363 E, oo_L_364 E, oo_L_367 E, oo_L_370 E, trivial⟩
theorem H_L_348 {Γ : jΓ} {b LL : Nat} {xs : Nat → Int32} (E : E_L Γ b LL xs) : jHd cd_L (jG Γ) qT (sg_L_348 LL xs) 348 := fun n L st K h ce sl => jwp_ok (cd := cd_L) (Γ := Γ) (Q := qT) okc_L n (sg_L_348 LL xs) 348 (ok_L_348 E) L st K h ce sl
theorem oo_L_372 {Γ : jΓ} {b LL : Nat} {xs : Nat → Int32} (E : E_L Γ b LL xs) : jSA Γ qT 372 (o_aload 1) 1 := by
  obtain ⟨E1, E2, ⟨nm, C⟩, S⟩ := E
  exact so_aload_n C rfl dL_law_372
theorem oo_L_373 {Γ : jΓ} {b LL : Nat} {xs : Nat → Int32} (E : E_L Γ b LL xs) : jSA Γ qT 373 (o_aload 0) 1 := by
  obtain ⟨E1, E2, ⟨nm, C⟩, S⟩ := E
  exact so_aload_n C rfl dL_law_373
theorem oo_L_374 {Γ : jΓ} {b LL : Nat} {xs : Nat → Int32} (E : E_L Γ b LL xs) : jSA Γ qT 374 (o_iload 3) 1 := by
  obtain ⟨E1, E2, ⟨nm, C⟩, S⟩ := E
  exact so_iload_n C rfl dL_law_374
theorem oo_L_375 {Γ : jΓ} {b LL : Nat} {xs : Nat → Int32} (E : E_L Γ b LL xs) : jSA Γ qT 375 (o_ic (1)) 1 := by
  obtain ⟨E1, E2, ⟨nm, C⟩, S⟩ := E
  exact so_iconst C rfl dL_law_375
theorem oo_L_376 {Γ : jΓ} {b LL : Nat} {xs : Nat → Int32} (E : E_L Γ b LL xs) : jSA Γ qT 376 (o_iadd) 1 := by
  obtain ⟨E1, E2, ⟨nm, C⟩, S⟩ := E
  exact so_iadd C dL_law_376
theorem oo_L_377 {Γ : jΓ} {b LL : Nat} {xs : Nat → Int32} (E : E_L Γ b LL xs) : jSA Γ qT 377 (o_sld LL xs) 1 := by
  obtain ⟨E1, E2, ⟨nm, C⟩, S⟩ := E
  exact so_sld C S dL_law_377
theorem oo_L_378 {Γ : jΓ} {b LL : Nat} {xs : Nat → Int32} (E : E_L Γ b LL xs) : jSA Γ qT 378 (o_aload 0) 1 := by
  obtain ⟨E1, E2, ⟨nm, C⟩, S⟩ := E
  exact so_aload_n C rfl dL_law_378
theorem oo_L_379 {Γ : jΓ} {b LL : Nat} {xs : Nat → Int32} (E : E_L Γ b LL xs) : jSA Γ qT 379 (o_iload 3) 1 := by
  obtain ⟨E1, E2, ⟨nm, C⟩, S⟩ := E
  exact so_iload_n C rfl dL_law_379
theorem oo_L_380 {Γ : jΓ} {b LL : Nat} {xs : Nat → Int32} (E : E_L Γ b LL xs) : jSA Γ qT 380 (o_ic (2)) 1 := by
  obtain ⟨E1, E2, ⟨nm, C⟩, S⟩ := E
  exact so_iconst C rfl dL_law_380
theorem oo_L_381 {Γ : jΓ} {b LL : Nat} {xs : Nat → Int32} (E : E_L Γ b LL xs) : jSA Γ qT 381 (o_iadd) 1 := by
  obtain ⟨E1, E2, ⟨nm, C⟩, S⟩ := E
  exact so_iadd C dL_law_381
theorem oo_L_382 {Γ : jΓ} {b LL : Nat} {xs : Nat → Int32} (E : E_L Γ b LL xs) : jSA Γ qT 382 (o_sld LL xs) 1 := by
  obtain ⟨E1, E2, ⟨nm, C⟩, S⟩ := E
  exact so_sld C S dL_law_382
theorem oo_L_383 {Γ : jΓ} {b LL : Nat} {xs : Nat → Int32} (E : E_L Γ b LL xs) : jSA Γ qT 383 (o_callV 3 6 T_X6_colour) 3 := by
  obtain ⟨E1, E2, ⟨nm, C⟩, S⟩ := E
  exact so_callV C (ci := 6) (by rw [E2]; rfl) gL_law_X6_colour (by decide +kernel) rfl (by rw [E2]; exact m_X6_colour _) (by decide) (by decide) dL_law_383
theorem ok_L_372 {Γ : jΓ} {b LL : Nat} {xs : Nat → Int32} (E : E_L Γ b LL xs) : jSS Γ qT 372 (sg_L_372 LL xs) := ⟨oo_L_372 E, oo_L_373 E, oo_L_374 E, oo_L_375 E, oo_L_376 E, oo_L_377 E, oo_L_378 E, oo_L_379 E, oo_L_380 E, oo_L_381 E, oo_L_382 E, oo_L_383 E, trivial⟩
theorem H_L_372 {Γ : jΓ} {b LL : Nat} {xs : Nat → Int32} (E : E_L Γ b LL xs) : jHd cd_L (jG Γ) qT (sg_L_372 LL xs) 372 := fun n L st K h ce sl => jwp_ok (cd := cd_L) (Γ := Γ) (Q := qT) okc_L n (sg_L_372 LL xs) 372 (ok_L_372 E) L st K h ce sl
theorem oo_L_386 {Γ : jΓ} {b LL : Nat} {xs : Nat → Int32} (E : E_L Γ b LL xs) : jSA Γ qT 386 (o_aload 2) 1 := by
  obtain ⟨E1, E2, ⟨nm, C⟩, S⟩ := E
  exact so_aload_n C rfl dL_law_386
theorem oo_L_387 {Γ : jΓ} {b LL : Nat} {xs : Nat → Int32} (E : E_L Γ b LL xs) : jSA Γ qT 387 (o_aload 0) 1 := by
  obtain ⟨E1, E2, ⟨nm, C⟩, S⟩ := E
  exact so_aload_n C rfl dL_law_387
theorem oo_L_388 {Γ : jΓ} {b LL : Nat} {xs : Nat → Int32} (E : E_L Γ b LL xs) : jSA Γ qT 388 (o_iload 3) 1 := by
  obtain ⟨E1, E2, ⟨nm, C⟩, S⟩ := E
  exact so_iload_n C rfl dL_law_388
theorem oo_L_389 {Γ : jΓ} {b LL : Nat} {xs : Nat → Int32} (E : E_L Γ b LL xs) : jSA Γ qT 389 (o_ic (1)) 1 := by
  obtain ⟨E1, E2, ⟨nm, C⟩, S⟩ := E
  exact so_iconst C rfl dL_law_389
theorem oo_L_390 {Γ : jΓ} {b LL : Nat} {xs : Nat → Int32} (E : E_L Γ b LL xs) : jSA Γ qT 390 (o_iadd) 1 := by
  obtain ⟨E1, E2, ⟨nm, C⟩, S⟩ := E
  exact so_iadd C dL_law_390
theorem oo_L_391 {Γ : jΓ} {b LL : Nat} {xs : Nat → Int32} (E : E_L Γ b LL xs) : jSA Γ qT 391 (o_sld LL xs) 1 := by
  obtain ⟨E1, E2, ⟨nm, C⟩, S⟩ := E
  exact so_sld C S dL_law_391
theorem oo_L_392 {Γ : jΓ} {b LL : Nat} {xs : Nat → Int32} (E : E_L Γ b LL xs) : jSA Γ qT 392 (o_aload 0) 1 := by
  obtain ⟨E1, E2, ⟨nm, C⟩, S⟩ := E
  exact so_aload_n C rfl dL_law_392
theorem oo_L_393 {Γ : jΓ} {b LL : Nat} {xs : Nat → Int32} (E : E_L Γ b LL xs) : jSA Γ qT 393 (o_iload 3) 1 := by
  obtain ⟨E1, E2, ⟨nm, C⟩, S⟩ := E
  exact so_iload_n C rfl dL_law_393
theorem oo_L_394 {Γ : jΓ} {b LL : Nat} {xs : Nat → Int32} (E : E_L Γ b LL xs) : jSA Γ qT 394 (o_ic (2)) 1 := by
  obtain ⟨E1, E2, ⟨nm, C⟩, S⟩ := E
  exact so_iconst C rfl dL_law_394
theorem oo_L_395 {Γ : jΓ} {b LL : Nat} {xs : Nat → Int32} (E : E_L Γ b LL xs) : jSA Γ qT 395 (o_iadd) 1 := by
  obtain ⟨E1, E2, ⟨nm, C⟩, S⟩ := E
  exact so_iadd C dL_law_395
theorem oo_L_396 {Γ : jΓ} {b LL : Nat} {xs : Nat → Int32} (E : E_L Γ b LL xs) : jSA Γ qT 396 (o_sld LL xs) 1 := by
  obtain ⟨E1, E2, ⟨nm, C⟩, S⟩ := E
  exact so_sld C S dL_law_396
theorem oo_L_397 {Γ : jΓ} {b LL : Nat} {xs : Nat → Int32} (E : E_L Γ b LL xs) : jSA Γ qT 397 (o_callV 3 7 T_X7_colour) 3 := by
  obtain ⟨E1, E2, ⟨nm, C⟩, S⟩ := E
  exact so_callV C (ci := 7) (by rw [E2]; rfl) gL_law_X7_colour (by decide +kernel) rfl (by rw [E2]; exact m_X7_colour _) (by decide) (by decide) dL_law_397
theorem oo_L_400 {Γ : jΓ} {b LL : Nat} {xs : Nat → Int32} (E : E_L Γ b LL xs) : jSA Γ qT 400 (o_iceq 949) 3 := by
  obtain ⟨E1, E2, ⟨nm, C⟩, S⟩ := E
  exact so_iceq C (by decide) dL_law_400
theorem oo_L_403 {Γ : jΓ} {b LL : Nat} {xs : Nat → Int32} (E : E_L Γ b LL xs) : jSA Γ qT 403 (o_ic (0)) 1 := by
  obtain ⟨E1, E2, ⟨nm, C⟩, S⟩ := E
  exact so_iconst C rfl dL_law_403
theorem ok_L_386 {Γ : jΓ} {b LL : Nat} {xs : Nat → Int32} (E : E_L Γ b LL xs) : jSS Γ qT 386 (sg_L_386 LL xs) := ⟨oo_L_386 E, oo_L_387 E, oo_L_388 E, oo_L_389 E, oo_L_390 E, oo_L_391 E, oo_L_392 E, oo_L_393 E, oo_L_394 E, oo_L_395 E, oo_L_396 E, oo_L_397 E, oo_L_400 E, oo_L_403 E, trivial⟩
theorem H_L_386 {Γ : jΓ} {b LL : Nat} {xs : Nat → Int32} (E : E_L Γ b LL xs) : jHd cd_L (jG Γ) qT (sg_L_386 LL xs) 386 := fun n L st K h ce sl => jwp_ok (cd := cd_L) (Γ := Γ) (Q := qT) okc_L n (sg_L_386 LL xs) 386 (ok_L_386 E) L st K h ce sl
theorem oo_L_405 {Γ : jΓ} {b LL : Nat} {xs : Nat → Int32} (E : E_L Γ b LL xs) : jSA Γ qT 405 (o_aload 1) 1 := by
  obtain ⟨E1, E2, ⟨nm, C⟩, S⟩ := E
  exact so_aload_n C rfl dL_law_405
theorem oo_L_406 {Γ : jΓ} {b LL : Nat} {xs : Nat → Int32} (E : E_L Γ b LL xs) : jSA Γ qT 406 (o_aload 0) 1 := by
  obtain ⟨E1, E2, ⟨nm, C⟩, S⟩ := E
  exact so_aload_n C rfl dL_law_406
theorem oo_L_407 {Γ : jΓ} {b LL : Nat} {xs : Nat → Int32} (E : E_L Γ b LL xs) : jSA Γ qT 407 (o_iload 3) 1 := by
  obtain ⟨E1, E2, ⟨nm, C⟩, S⟩ := E
  exact so_iload_n C rfl dL_law_407
theorem oo_L_408 {Γ : jΓ} {b LL : Nat} {xs : Nat → Int32} (E : E_L Γ b LL xs) : jSA Γ qT 408 (o_ic (1)) 1 := by
  obtain ⟨E1, E2, ⟨nm, C⟩, S⟩ := E
  exact so_iconst C rfl dL_law_408
theorem oo_L_409 {Γ : jΓ} {b LL : Nat} {xs : Nat → Int32} (E : E_L Γ b LL xs) : jSA Γ qT 409 (o_iadd) 1 := by
  obtain ⟨E1, E2, ⟨nm, C⟩, S⟩ := E
  exact so_iadd C dL_law_409
theorem oo_L_410 {Γ : jΓ} {b LL : Nat} {xs : Nat → Int32} (E : E_L Γ b LL xs) : jSA Γ qT 410 (o_sld LL xs) 1 := by
  obtain ⟨E1, E2, ⟨nm, C⟩, S⟩ := E
  exact so_sld C S dL_law_410
theorem oo_L_411 {Γ : jΓ} {b LL : Nat} {xs : Nat → Int32} (E : E_L Γ b LL xs) : jSA Γ qT 411 (o_aload 0) 1 := by
  obtain ⟨E1, E2, ⟨nm, C⟩, S⟩ := E
  exact so_aload_n C rfl dL_law_411
theorem oo_L_412 {Γ : jΓ} {b LL : Nat} {xs : Nat → Int32} (E : E_L Γ b LL xs) : jSA Γ qT 412 (o_iload 3) 1 := by
  obtain ⟨E1, E2, ⟨nm, C⟩, S⟩ := E
  exact so_iload_n C rfl dL_law_412
theorem oo_L_413 {Γ : jΓ} {b LL : Nat} {xs : Nat → Int32} (E : E_L Γ b LL xs) : jSA Γ qT 413 (o_ic (2)) 1 := by
  obtain ⟨E1, E2, ⟨nm, C⟩, S⟩ := E
  exact so_iconst C rfl dL_law_413
theorem oo_L_414 {Γ : jΓ} {b LL : Nat} {xs : Nat → Int32} (E : E_L Γ b LL xs) : jSA Γ qT 414 (o_iadd) 1 := by
  obtain ⟨E1, E2, ⟨nm, C⟩, S⟩ := E
  exact so_iadd C dL_law_414
theorem oo_L_415 {Γ : jΓ} {b LL : Nat} {xs : Nat → Int32} (E : E_L Γ b LL xs) : jSA Γ qT 415 (o_sld LL xs) 1 := by
  obtain ⟨E1, E2, ⟨nm, C⟩, S⟩ := E
  exact so_sld C S dL_law_415
theorem oo_L_416 {Γ : jΓ} {b LL : Nat} {xs : Nat → Int32} (E : E_L Γ b LL xs) : jSA Γ qT 416 (o_callV 3 6 T_X6_told) 3 := by
  obtain ⟨E1, E2, ⟨nm, C⟩, S⟩ := E
  exact so_callV C (ci := 6) (by rw [E2]; rfl) gL_law_X6_told (by decide +kernel) rfl (by rw [E2]; exact m_X6_told _) (by decide) (by decide) dL_law_416
theorem ok_L_405 {Γ : jΓ} {b LL : Nat} {xs : Nat → Int32} (E : E_L Γ b LL xs) : jSS Γ qT 405 (sg_L_405 LL xs) := ⟨oo_L_405 E, oo_L_406 E, oo_L_407 E, oo_L_408 E, oo_L_409 E, oo_L_410 E, oo_L_411 E, oo_L_412 E, oo_L_413 E, oo_L_414 E, oo_L_415 E, oo_L_416 E, trivial⟩
theorem H_L_405 {Γ : jΓ} {b LL : Nat} {xs : Nat → Int32} (E : E_L Γ b LL xs) : jHd cd_L (jG Γ) qT (sg_L_405 LL xs) 405 := fun n L st K h ce sl => jwp_ok (cd := cd_L) (Γ := Γ) (Q := qT) okc_L n (sg_L_405 LL xs) 405 (ok_L_405 E) L st K h ce sl
theorem oo_L_419 {Γ : jΓ} {b LL : Nat} {xs : Nat → Int32} (E : E_L Γ b LL xs) : jSA Γ qT 419 (o_aload 2) 1 := by
  obtain ⟨E1, E2, ⟨nm, C⟩, S⟩ := E
  exact so_aload_n C rfl dL_law_419
theorem oo_L_420 {Γ : jΓ} {b LL : Nat} {xs : Nat → Int32} (E : E_L Γ b LL xs) : jSA Γ qT 420 (o_aload 0) 1 := by
  obtain ⟨E1, E2, ⟨nm, C⟩, S⟩ := E
  exact so_aload_n C rfl dL_law_420
theorem oo_L_421 {Γ : jΓ} {b LL : Nat} {xs : Nat → Int32} (E : E_L Γ b LL xs) : jSA Γ qT 421 (o_iload 3) 1 := by
  obtain ⟨E1, E2, ⟨nm, C⟩, S⟩ := E
  exact so_iload_n C rfl dL_law_421
theorem oo_L_422 {Γ : jΓ} {b LL : Nat} {xs : Nat → Int32} (E : E_L Γ b LL xs) : jSA Γ qT 422 (o_ic (1)) 1 := by
  obtain ⟨E1, E2, ⟨nm, C⟩, S⟩ := E
  exact so_iconst C rfl dL_law_422
theorem oo_L_423 {Γ : jΓ} {b LL : Nat} {xs : Nat → Int32} (E : E_L Γ b LL xs) : jSA Γ qT 423 (o_iadd) 1 := by
  obtain ⟨E1, E2, ⟨nm, C⟩, S⟩ := E
  exact so_iadd C dL_law_423
theorem oo_L_424 {Γ : jΓ} {b LL : Nat} {xs : Nat → Int32} (E : E_L Γ b LL xs) : jSA Γ qT 424 (o_sld LL xs) 1 := by
  obtain ⟨E1, E2, ⟨nm, C⟩, S⟩ := E
  exact so_sld C S dL_law_424
theorem oo_L_425 {Γ : jΓ} {b LL : Nat} {xs : Nat → Int32} (E : E_L Γ b LL xs) : jSA Γ qT 425 (o_aload 0) 1 := by
  obtain ⟨E1, E2, ⟨nm, C⟩, S⟩ := E
  exact so_aload_n C rfl dL_law_425
theorem oo_L_426 {Γ : jΓ} {b LL : Nat} {xs : Nat → Int32} (E : E_L Γ b LL xs) : jSA Γ qT 426 (o_iload 3) 1 := by
  obtain ⟨E1, E2, ⟨nm, C⟩, S⟩ := E
  exact so_iload_n C rfl dL_law_426
theorem oo_L_427 {Γ : jΓ} {b LL : Nat} {xs : Nat → Int32} (E : E_L Γ b LL xs) : jSA Γ qT 427 (o_ic (2)) 1 := by
  obtain ⟨E1, E2, ⟨nm, C⟩, S⟩ := E
  exact so_iconst C rfl dL_law_427
theorem oo_L_428 {Γ : jΓ} {b LL : Nat} {xs : Nat → Int32} (E : E_L Γ b LL xs) : jSA Γ qT 428 (o_iadd) 1 := by
  obtain ⟨E1, E2, ⟨nm, C⟩, S⟩ := E
  exact so_iadd C dL_law_428
theorem oo_L_429 {Γ : jΓ} {b LL : Nat} {xs : Nat → Int32} (E : E_L Γ b LL xs) : jSA Γ qT 429 (o_sld LL xs) 1 := by
  obtain ⟨E1, E2, ⟨nm, C⟩, S⟩ := E
  exact so_sld C S dL_law_429
theorem oo_L_430 {Γ : jΓ} {b LL : Nat} {xs : Nat → Int32} (E : E_L Γ b LL xs) : jSA Γ qT 430 (o_callV 3 7 T_X7_told) 3 := by
  obtain ⟨E1, E2, ⟨nm, C⟩, S⟩ := E
  exact so_callV C (ci := 7) (by rw [E2]; rfl) gL_law_X7_told (by decide +kernel) rfl (by rw [E2]; exact m_X7_told _) (by decide) (by decide) dL_law_430
theorem oo_L_433 {Γ : jΓ} {b LL : Nat} {xs : Nat → Int32} (E : E_L Γ b LL xs) : jSA Γ qT 433 (o_iceq 949) 3 := by
  obtain ⟨E1, E2, ⟨nm, C⟩, S⟩ := E
  exact so_iceq C (by decide) dL_law_433
theorem oo_L_436 {Γ : jΓ} {b LL : Nat} {xs : Nat → Int32} (E : E_L Γ b LL xs) : jSA Γ qT 436 (o_ic (0)) 1 := by
  obtain ⟨E1, E2, ⟨nm, C⟩, S⟩ := E
  exact so_iconst C rfl dL_law_436
theorem ok_L_419 {Γ : jΓ} {b LL : Nat} {xs : Nat → Int32} (E : E_L Γ b LL xs) : jSS Γ qT 419 (sg_L_419 LL xs) := ⟨oo_L_419 E, oo_L_420 E, oo_L_421 E, oo_L_422 E, oo_L_423 E, oo_L_424 E, oo_L_425 E, oo_L_426 E, oo_L_427 E, oo_L_428 E, oo_L_429 E, oo_L_430 E, oo_L_433 E, oo_L_436 E, trivial⟩
theorem H_L_419 {Γ : jΓ} {b LL : Nat} {xs : Nat → Int32} (E : E_L Γ b LL xs) : jHd cd_L (jG Γ) qT (sg_L_419 LL xs) 419 := fun n L st K h ce sl => jwp_ok (cd := cd_L) (Γ := Γ) (Q := qT) okc_L n (sg_L_419 LL xs) 419 (ok_L_419 E) L st K h ce sl
theorem oo_L_438 {Γ : jΓ} {b LL : Nat} {xs : Nat → Int32} (E : E_L Γ b LL xs) : jSA Γ qT 438 (o_aload 1) 1 := by
  obtain ⟨E1, E2, ⟨nm, C⟩, S⟩ := E
  exact so_aload_n C rfl dL_law_438
theorem oo_L_439 {Γ : jΓ} {b LL : Nat} {xs : Nat → Int32} (E : E_L Γ b LL xs) : jSA Γ qT 439 (o_aload 0) 1 := by
  obtain ⟨E1, E2, ⟨nm, C⟩, S⟩ := E
  exact so_aload_n C rfl dL_law_439
theorem oo_L_440 {Γ : jΓ} {b LL : Nat} {xs : Nat → Int32} (E : E_L Γ b LL xs) : jSA Γ qT 440 (o_iload 3) 1 := by
  obtain ⟨E1, E2, ⟨nm, C⟩, S⟩ := E
  exact so_iload_n C rfl dL_law_440
theorem oo_L_441 {Γ : jΓ} {b LL : Nat} {xs : Nat → Int32} (E : E_L Γ b LL xs) : jSA Γ qT 441 (o_ic (1)) 1 := by
  obtain ⟨E1, E2, ⟨nm, C⟩, S⟩ := E
  exact so_iconst C rfl dL_law_441
theorem oo_L_442 {Γ : jΓ} {b LL : Nat} {xs : Nat → Int32} (E : E_L Γ b LL xs) : jSA Γ qT 442 (o_iadd) 1 := by
  obtain ⟨E1, E2, ⟨nm, C⟩, S⟩ := E
  exact so_iadd C dL_law_442
theorem oo_L_443 {Γ : jΓ} {b LL : Nat} {xs : Nat → Int32} (E : E_L Γ b LL xs) : jSA Γ qT 443 (o_sld LL xs) 1 := by
  obtain ⟨E1, E2, ⟨nm, C⟩, S⟩ := E
  exact so_sld C S dL_law_443
theorem oo_L_444 {Γ : jΓ} {b LL : Nat} {xs : Nat → Int32} (E : E_L Γ b LL xs) : jSA Γ qT 444 (o_callV 2 6 T_X6_run) 3 := by
  obtain ⟨E1, E2, ⟨nm, C⟩, S⟩ := E
  exact so_callV C (ci := 6) (by rw [E2]; rfl) gL_law_X6_run (by decide +kernel) rfl (by rw [E2]; exact m_X6_run _) (by decide) (by decide) dL_law_444
theorem ok_L_438 {Γ : jΓ} {b LL : Nat} {xs : Nat → Int32} (E : E_L Γ b LL xs) : jSS Γ qT 438 (sg_L_438 LL xs) := ⟨oo_L_438 E, oo_L_439 E, oo_L_440 E, oo_L_441 E, oo_L_442 E, oo_L_443 E, oo_L_444 E, trivial⟩
theorem H_L_438 {Γ : jΓ} {b LL : Nat} {xs : Nat → Int32} (E : E_L Γ b LL xs) : jHd cd_L (jG Γ) qT (sg_L_438 LL xs) 438 := fun n L st K h ce sl => jwp_ok (cd := cd_L) (Γ := Γ) (Q := qT) okc_L n (sg_L_438 LL xs) 438 (ok_L_438 E) L st K h ce sl
theorem oo_L_447 {Γ : jΓ} {b LL : Nat} {xs : Nat → Int32} (E : E_L Γ b LL xs) : jSA Γ qT 447 (o_aload 2) 1 := by
  obtain ⟨E1, E2, ⟨nm, C⟩, S⟩ := E
  exact so_aload_n C rfl dL_law_447
theorem oo_L_448 {Γ : jΓ} {b LL : Nat} {xs : Nat → Int32} (E : E_L Γ b LL xs) : jSA Γ qT 448 (o_aload 0) 1 := by
  obtain ⟨E1, E2, ⟨nm, C⟩, S⟩ := E
  exact so_aload_n C rfl dL_law_448
theorem oo_L_449 {Γ : jΓ} {b LL : Nat} {xs : Nat → Int32} (E : E_L Γ b LL xs) : jSA Γ qT 449 (o_iload 3) 1 := by
  obtain ⟨E1, E2, ⟨nm, C⟩, S⟩ := E
  exact so_iload_n C rfl dL_law_449
theorem oo_L_450 {Γ : jΓ} {b LL : Nat} {xs : Nat → Int32} (E : E_L Γ b LL xs) : jSA Γ qT 450 (o_ic (1)) 1 := by
  obtain ⟨E1, E2, ⟨nm, C⟩, S⟩ := E
  exact so_iconst C rfl dL_law_450
theorem oo_L_451 {Γ : jΓ} {b LL : Nat} {xs : Nat → Int32} (E : E_L Γ b LL xs) : jSA Γ qT 451 (o_iadd) 1 := by
  obtain ⟨E1, E2, ⟨nm, C⟩, S⟩ := E
  exact so_iadd C dL_law_451
theorem oo_L_452 {Γ : jΓ} {b LL : Nat} {xs : Nat → Int32} (E : E_L Γ b LL xs) : jSA Γ qT 452 (o_sld LL xs) 1 := by
  obtain ⟨E1, E2, ⟨nm, C⟩, S⟩ := E
  exact so_sld C S dL_law_452
theorem oo_L_453 {Γ : jΓ} {b LL : Nat} {xs : Nat → Int32} (E : E_L Γ b LL xs) : jSA Γ qT 453 (o_callV 2 7 T_X7_run) 3 := by
  obtain ⟨E1, E2, ⟨nm, C⟩, S⟩ := E
  exact so_callV C (ci := 7) (by rw [E2]; rfl) gL_law_X7_run (by decide +kernel) rfl (by rw [E2]; exact m_X7_run _) (by decide) (by decide) dL_law_453
theorem oo_L_456 {Γ : jΓ} {b LL : Nat} {xs : Nat → Int32} (E : E_L Γ b LL xs) : jSA Γ qT 456 (o_iceq 949) 3 := by
  obtain ⟨E1, E2, ⟨nm, C⟩, S⟩ := E
  exact so_iceq C (by decide) dL_law_456
theorem oo_L_459 {Γ : jΓ} {b LL : Nat} {xs : Nat → Int32} (E : E_L Γ b LL xs) : jSA Γ qT 459 (o_ic (0)) 1 := by
  obtain ⟨E1, E2, ⟨nm, C⟩, S⟩ := E
  exact so_iconst C rfl dL_law_459
theorem ok_L_447 {Γ : jΓ} {b LL : Nat} {xs : Nat → Int32} (E : E_L Γ b LL xs) : jSS Γ qT 447 (sg_L_447 LL xs) := ⟨oo_L_447 E, oo_L_448 E, oo_L_449 E, oo_L_450 E, oo_L_451 E, oo_L_452 E, oo_L_453 E, oo_L_456 E, oo_L_459 E, trivial⟩
theorem H_L_447 {Γ : jΓ} {b LL : Nat} {xs : Nat → Int32} (E : E_L Γ b LL xs) : jHd cd_L (jG Γ) qT (sg_L_447 LL xs) 447 := fun n L st K h ce sl => jwp_ok (cd := cd_L) (Γ := Γ) (Q := qT) okc_L n (sg_L_447 LL xs) 447 (ok_L_447 E) L st K h ce sl
theorem oo_L_461 {Γ : jΓ} {b LL : Nat} {xs : Nat → Int32} (E : E_L Γ b LL xs) : jSA Γ qT 461 (o_aload 1) 1 := by
  obtain ⟨E1, E2, ⟨nm, C⟩, S⟩ := E
  exact so_aload_n C rfl dL_law_461
theorem oo_L_462 {Γ : jΓ} {b LL : Nat} {xs : Nat → Int32} (E : E_L Γ b LL xs) : jSA Γ qT 462 (o_callV 1 6 T_X6_time) 3 := by
  obtain ⟨E1, E2, ⟨nm, C⟩, S⟩ := E
  exact so_callV C (ci := 6) (by rw [E2]; rfl) gL_law_X6_time (by decide +kernel) rfl (by rw [E2]; exact m_X6_time _) (by decide) (by decide) dL_law_462
theorem ok_L_461 {Γ : jΓ} {b LL : Nat} {xs : Nat → Int32} (E : E_L Γ b LL xs) : jSS Γ qT 461 (sg_L_461 LL xs) := ⟨oo_L_461 E, oo_L_462 E, trivial⟩
theorem H_L_461 {Γ : jΓ} {b LL : Nat} {xs : Nat → Int32} (E : E_L Γ b LL xs) : jHd cd_L (jG Γ) qT (sg_L_461 LL xs) 461 := fun n L st K h ce sl => jwp_ok (cd := cd_L) (Γ := Γ) (Q := qT) okc_L n (sg_L_461 LL xs) 461 (ok_L_461 E) L st K h ce sl
theorem oo_L_465 {Γ : jΓ} {b LL : Nat} {xs : Nat → Int32} (E : E_L Γ b LL xs) : jSA Γ qT 465 (o_aload 2) 1 := by
  obtain ⟨E1, E2, ⟨nm, C⟩, S⟩ := E
  exact so_aload_n C rfl dL_law_465
theorem oo_L_466 {Γ : jΓ} {b LL : Nat} {xs : Nat → Int32} (E : E_L Γ b LL xs) : jSA Γ qT 466 (o_callV 1 7 T_X7_time) 3 := by
  obtain ⟨E1, E2, ⟨nm, C⟩, S⟩ := E
  exact so_callV C (ci := 7) (by rw [E2]; rfl) gL_law_X7_time (by decide +kernel) rfl (by rw [E2]; exact m_X7_time _) (by decide) (by decide) dL_law_466
theorem oo_L_469 {Γ : jΓ} {b LL : Nat} {xs : Nat → Int32} (E : E_L Γ b LL xs) : jSA Γ qT 469 (o_iceq 949) 3 := by
  obtain ⟨E1, E2, ⟨nm, C⟩, S⟩ := E
  exact so_iceq C (by decide) dL_law_469
theorem oo_L_472 {Γ : jΓ} {b LL : Nat} {xs : Nat → Int32} (E : E_L Γ b LL xs) : jSA Γ qT 472 (o_ic (0)) 1 := by
  obtain ⟨E1, E2, ⟨nm, C⟩, S⟩ := E
  exact so_iconst C rfl dL_law_472
theorem ok_L_465 {Γ : jΓ} {b LL : Nat} {xs : Nat → Int32} (E : E_L Γ b LL xs) : jSS Γ qT 465 (sg_L_465 LL xs) := ⟨oo_L_465 E, oo_L_466 E, oo_L_469 E, oo_L_472 E, trivial⟩
theorem H_L_465 {Γ : jΓ} {b LL : Nat} {xs : Nat → Int32} (E : E_L Γ b LL xs) : jHd cd_L (jG Γ) qT (sg_L_465 LL xs) 465 := fun n L st K h ce sl => jwp_ok (cd := cd_L) (Γ := Γ) (Q := qT) okc_L n (sg_L_465 LL xs) 465 (ok_L_465 E) L st K h ce sl
theorem oo_L_474 {Γ : jΓ} {b LL : Nat} {xs : Nat → Int32} (E : E_L Γ b LL xs) : jSA Γ qT 474 (o_aload 1) 1 := by
  obtain ⟨E1, E2, ⟨nm, C⟩, S⟩ := E
  exact so_aload_n C rfl dL_law_474
theorem oo_L_475 {Γ : jΓ} {b LL : Nat} {xs : Nat → Int32} (E : E_L Γ b LL xs) : jSA Γ qT 475 (o_aload 0) 1 := by
  obtain ⟨E1, E2, ⟨nm, C⟩, S⟩ := E
  exact so_aload_n C rfl dL_law_475
theorem oo_L_476 {Γ : jΓ} {b LL : Nat} {xs : Nat → Int32} (E : E_L Γ b LL xs) : jSA Γ qT 476 (o_iload 3) 1 := by
  obtain ⟨E1, E2, ⟨nm, C⟩, S⟩ := E
  exact so_iload_n C rfl dL_law_476
theorem oo_L_477 {Γ : jΓ} {b LL : Nat} {xs : Nat → Int32} (E : E_L Γ b LL xs) : jSA Γ qT 477 (o_ic (1)) 1 := by
  obtain ⟨E1, E2, ⟨nm, C⟩, S⟩ := E
  exact so_iconst C rfl dL_law_477
theorem oo_L_478 {Γ : jΓ} {b LL : Nat} {xs : Nat → Int32} (E : E_L Γ b LL xs) : jSA Γ qT 478 (o_iadd) 1 := by
  obtain ⟨E1, E2, ⟨nm, C⟩, S⟩ := E
  exact so_iadd C dL_law_478
theorem oo_L_479 {Γ : jΓ} {b LL : Nat} {xs : Nat → Int32} (E : E_L Γ b LL xs) : jSA Γ qT 479 (o_sld LL xs) 1 := by
  obtain ⟨E1, E2, ⟨nm, C⟩, S⟩ := E
  exact so_sld C S dL_law_479
theorem oo_L_480 {Γ : jΓ} {b LL : Nat} {xs : Nat → Int32} (E : E_L Γ b LL xs) : jSA Γ qT 480 (o_aload 0) 1 := by
  obtain ⟨E1, E2, ⟨nm, C⟩, S⟩ := E
  exact so_aload_n C rfl dL_law_480
theorem oo_L_481 {Γ : jΓ} {b LL : Nat} {xs : Nat → Int32} (E : E_L Γ b LL xs) : jSA Γ qT 481 (o_iload 3) 1 := by
  obtain ⟨E1, E2, ⟨nm, C⟩, S⟩ := E
  exact so_iload_n C rfl dL_law_481
theorem oo_L_482 {Γ : jΓ} {b LL : Nat} {xs : Nat → Int32} (E : E_L Γ b LL xs) : jSA Γ qT 482 (o_ic (2)) 1 := by
  obtain ⟨E1, E2, ⟨nm, C⟩, S⟩ := E
  exact so_iconst C rfl dL_law_482
theorem oo_L_483 {Γ : jΓ} {b LL : Nat} {xs : Nat → Int32} (E : E_L Γ b LL xs) : jSA Γ qT 483 (o_iadd) 1 := by
  obtain ⟨E1, E2, ⟨nm, C⟩, S⟩ := E
  exact so_iadd C dL_law_483
theorem oo_L_484 {Γ : jΓ} {b LL : Nat} {xs : Nat → Int32} (E : E_L Γ b LL xs) : jSA Γ qT 484 (o_sld LL xs) 1 := by
  obtain ⟨E1, E2, ⟨nm, C⟩, S⟩ := E
  exact so_sld C S dL_law_484
theorem oo_L_485 {Γ : jΓ} {b LL : Nat} {xs : Nat → Int32} (E : E_L Γ b LL xs) : jSA Γ qT 485 (o_callV 3 6 T_X6_meeting) 3 := by
  obtain ⟨E1, E2, ⟨nm, C⟩, S⟩ := E
  exact so_callV C (ci := 6) (by rw [E2]; rfl) gL_law_X6_meeting (by decide +kernel) rfl (by rw [E2]; exact m_X6_meeting _) (by decide) (by decide) dL_law_485
theorem ok_L_474 {Γ : jΓ} {b LL : Nat} {xs : Nat → Int32} (E : E_L Γ b LL xs) : jSS Γ qT 474 (sg_L_474 LL xs) := ⟨oo_L_474 E, oo_L_475 E, oo_L_476 E, oo_L_477 E, oo_L_478 E, oo_L_479 E, oo_L_480 E, oo_L_481 E, oo_L_482 E, oo_L_483 E, oo_L_484 E, oo_L_485 E, trivial⟩
theorem H_L_474 {Γ : jΓ} {b LL : Nat} {xs : Nat → Int32} (E : E_L Γ b LL xs) : jHd cd_L (jG Γ) qT (sg_L_474 LL xs) 474 := fun n L st K h ce sl => jwp_ok (cd := cd_L) (Γ := Γ) (Q := qT) okc_L n (sg_L_474 LL xs) 474 (ok_L_474 E) L st K h ce sl
theorem oo_L_488 {Γ : jΓ} {b LL : Nat} {xs : Nat → Int32} (E : E_L Γ b LL xs) : jSA Γ qT 488 (o_aload 2) 1 := by
  obtain ⟨E1, E2, ⟨nm, C⟩, S⟩ := E
  exact so_aload_n C rfl dL_law_488
theorem oo_L_489 {Γ : jΓ} {b LL : Nat} {xs : Nat → Int32} (E : E_L Γ b LL xs) : jSA Γ qT 489 (o_aload 0) 1 := by
  obtain ⟨E1, E2, ⟨nm, C⟩, S⟩ := E
  exact so_aload_n C rfl dL_law_489
theorem oo_L_490 {Γ : jΓ} {b LL : Nat} {xs : Nat → Int32} (E : E_L Γ b LL xs) : jSA Γ qT 490 (o_iload 3) 1 := by
  obtain ⟨E1, E2, ⟨nm, C⟩, S⟩ := E
  exact so_iload_n C rfl dL_law_490
theorem oo_L_491 {Γ : jΓ} {b LL : Nat} {xs : Nat → Int32} (E : E_L Γ b LL xs) : jSA Γ qT 491 (o_ic (1)) 1 := by
  obtain ⟨E1, E2, ⟨nm, C⟩, S⟩ := E
  exact so_iconst C rfl dL_law_491
theorem oo_L_492 {Γ : jΓ} {b LL : Nat} {xs : Nat → Int32} (E : E_L Γ b LL xs) : jSA Γ qT 492 (o_iadd) 1 := by
  obtain ⟨E1, E2, ⟨nm, C⟩, S⟩ := E
  exact so_iadd C dL_law_492
theorem oo_L_493 {Γ : jΓ} {b LL : Nat} {xs : Nat → Int32} (E : E_L Γ b LL xs) : jSA Γ qT 493 (o_sld LL xs) 1 := by
  obtain ⟨E1, E2, ⟨nm, C⟩, S⟩ := E
  exact so_sld C S dL_law_493
theorem oo_L_494 {Γ : jΓ} {b LL : Nat} {xs : Nat → Int32} (E : E_L Γ b LL xs) : jSA Γ qT 494 (o_aload 0) 1 := by
  obtain ⟨E1, E2, ⟨nm, C⟩, S⟩ := E
  exact so_aload_n C rfl dL_law_494
theorem oo_L_495 {Γ : jΓ} {b LL : Nat} {xs : Nat → Int32} (E : E_L Γ b LL xs) : jSA Γ qT 495 (o_iload 3) 1 := by
  obtain ⟨E1, E2, ⟨nm, C⟩, S⟩ := E
  exact so_iload_n C rfl dL_law_495
theorem oo_L_496 {Γ : jΓ} {b LL : Nat} {xs : Nat → Int32} (E : E_L Γ b LL xs) : jSA Γ qT 496 (o_ic (2)) 1 := by
  obtain ⟨E1, E2, ⟨nm, C⟩, S⟩ := E
  exact so_iconst C rfl dL_law_496
theorem oo_L_497 {Γ : jΓ} {b LL : Nat} {xs : Nat → Int32} (E : E_L Γ b LL xs) : jSA Γ qT 497 (o_iadd) 1 := by
  obtain ⟨E1, E2, ⟨nm, C⟩, S⟩ := E
  exact so_iadd C dL_law_497
theorem oo_L_498 {Γ : jΓ} {b LL : Nat} {xs : Nat → Int32} (E : E_L Γ b LL xs) : jSA Γ qT 498 (o_sld LL xs) 1 := by
  obtain ⟨E1, E2, ⟨nm, C⟩, S⟩ := E
  exact so_sld C S dL_law_498
theorem oo_L_499 {Γ : jΓ} {b LL : Nat} {xs : Nat → Int32} (E : E_L Γ b LL xs) : jSA Γ qT 499 (o_callV 3 7 T_X7_meeting) 3 := by
  obtain ⟨E1, E2, ⟨nm, C⟩, S⟩ := E
  exact so_callV C (ci := 7) (by rw [E2]; rfl) gL_law_X7_meeting (by decide +kernel) rfl (by rw [E2]; exact m_X7_meeting _) (by decide) (by decide) dL_law_499
theorem oo_L_502 {Γ : jΓ} {b LL : Nat} {xs : Nat → Int32} (E : E_L Γ b LL xs) : jSA Γ qT 502 (o_iceq 949) 3 := by
  obtain ⟨E1, E2, ⟨nm, C⟩, S⟩ := E
  exact so_iceq C (by decide) dL_law_502
theorem oo_L_505 {Γ : jΓ} {b LL : Nat} {xs : Nat → Int32} (E : E_L Γ b LL xs) : jSA Γ qT 505 (o_ic (0)) 1 := by
  obtain ⟨E1, E2, ⟨nm, C⟩, S⟩ := E
  exact so_iconst C rfl dL_law_505
theorem ok_L_488 {Γ : jΓ} {b LL : Nat} {xs : Nat → Int32} (E : E_L Γ b LL xs) : jSS Γ qT 488 (sg_L_488 LL xs) := ⟨oo_L_488 E, oo_L_489 E, oo_L_490 E, oo_L_491 E, oo_L_492 E, oo_L_493 E, oo_L_494 E, oo_L_495 E, oo_L_496 E, oo_L_497 E, oo_L_498 E, oo_L_499 E, oo_L_502 E, oo_L_505 E, trivial⟩
theorem H_L_488 {Γ : jΓ} {b LL : Nat} {xs : Nat → Int32} (E : E_L Γ b LL xs) : jHd cd_L (jG Γ) qT (sg_L_488 LL xs) 488 := fun n L st K h ce sl => jwp_ok (cd := cd_L) (Γ := Γ) (Q := qT) okc_L n (sg_L_488 LL xs) 488 (ok_L_488 E) L st K h ce sl
theorem oo_L_507 {Γ : jΓ} {b LL : Nat} {xs : Nat → Int32} (E : E_L Γ b LL xs) : jSA Γ qT 507 (o_aload 1) 1 := by
  obtain ⟨E1, E2, ⟨nm, C⟩, S⟩ := E
  exact so_aload_n C rfl dL_law_507
theorem oo_L_508 {Γ : jΓ} {b LL : Nat} {xs : Nat → Int32} (E : E_L Γ b LL xs) : jSA Γ qT 508 (o_aload 0) 1 := by
  obtain ⟨E1, E2, ⟨nm, C⟩, S⟩ := E
  exact so_aload_n C rfl dL_law_508
theorem oo_L_509 {Γ : jΓ} {b LL : Nat} {xs : Nat → Int32} (E : E_L Γ b LL xs) : jSA Γ qT 509 (o_iload 3) 1 := by
  obtain ⟨E1, E2, ⟨nm, C⟩, S⟩ := E
  exact so_iload_n C rfl dL_law_509
theorem oo_L_510 {Γ : jΓ} {b LL : Nat} {xs : Nat → Int32} (E : E_L Γ b LL xs) : jSA Γ qT 510 (o_ic (1)) 1 := by
  obtain ⟨E1, E2, ⟨nm, C⟩, S⟩ := E
  exact so_iconst C rfl dL_law_510
theorem oo_L_511 {Γ : jΓ} {b LL : Nat} {xs : Nat → Int32} (E : E_L Γ b LL xs) : jSA Γ qT 511 (o_iadd) 1 := by
  obtain ⟨E1, E2, ⟨nm, C⟩, S⟩ := E
  exact so_iadd C dL_law_511
theorem oo_L_512 {Γ : jΓ} {b LL : Nat} {xs : Nat → Int32} (E : E_L Γ b LL xs) : jSA Γ qT 512 (o_sld LL xs) 1 := by
  obtain ⟨E1, E2, ⟨nm, C⟩, S⟩ := E
  exact so_sld C S dL_law_512
theorem oo_L_513 {Γ : jΓ} {b LL : Nat} {xs : Nat → Int32} (E : E_L Γ b LL xs) : jSA Γ qT 513 (o_aload 0) 1 := by
  obtain ⟨E1, E2, ⟨nm, C⟩, S⟩ := E
  exact so_aload_n C rfl dL_law_513
theorem oo_L_514 {Γ : jΓ} {b LL : Nat} {xs : Nat → Int32} (E : E_L Γ b LL xs) : jSA Γ qT 514 (o_iload 3) 1 := by
  obtain ⟨E1, E2, ⟨nm, C⟩, S⟩ := E
  exact so_iload_n C rfl dL_law_514
theorem oo_L_515 {Γ : jΓ} {b LL : Nat} {xs : Nat → Int32} (E : E_L Γ b LL xs) : jSA Γ qT 515 (o_ic (2)) 1 := by
  obtain ⟨E1, E2, ⟨nm, C⟩, S⟩ := E
  exact so_iconst C rfl dL_law_515
theorem oo_L_516 {Γ : jΓ} {b LL : Nat} {xs : Nat → Int32} (E : E_L Γ b LL xs) : jSA Γ qT 516 (o_iadd) 1 := by
  obtain ⟨E1, E2, ⟨nm, C⟩, S⟩ := E
  exact so_iadd C dL_law_516
theorem oo_L_517 {Γ : jΓ} {b LL : Nat} {xs : Nat → Int32} (E : E_L Γ b LL xs) : jSA Γ qT 517 (o_sld LL xs) 1 := by
  obtain ⟨E1, E2, ⟨nm, C⟩, S⟩ := E
  exact so_sld C S dL_law_517
theorem oo_L_518 {Γ : jΓ} {b LL : Nat} {xs : Nat → Int32} (E : E_L Γ b LL xs) : jSA Γ qT 518 (o_callV 3 6 T_X6_visits) 3 := by
  obtain ⟨E1, E2, ⟨nm, C⟩, S⟩ := E
  exact so_callV C (ci := 6) (by rw [E2]; rfl) gL_law_X6_visits (by decide +kernel) rfl (by rw [E2]; exact m_X6_visits _) (by decide) (by decide) dL_law_518
theorem ok_L_507 {Γ : jΓ} {b LL : Nat} {xs : Nat → Int32} (E : E_L Γ b LL xs) : jSS Γ qT 507 (sg_L_507 LL xs) := ⟨oo_L_507 E, oo_L_508 E, oo_L_509 E, oo_L_510 E, oo_L_511 E, oo_L_512 E, oo_L_513 E, oo_L_514 E, oo_L_515 E, oo_L_516 E, oo_L_517 E, oo_L_518 E, trivial⟩
theorem H_L_507 {Γ : jΓ} {b LL : Nat} {xs : Nat → Int32} (E : E_L Γ b LL xs) : jHd cd_L (jG Γ) qT (sg_L_507 LL xs) 507 := fun n L st K h ce sl => jwp_ok (cd := cd_L) (Γ := Γ) (Q := qT) okc_L n (sg_L_507 LL xs) 507 (ok_L_507 E) L st K h ce sl
theorem oo_L_521 {Γ : jΓ} {b LL : Nat} {xs : Nat → Int32} (E : E_L Γ b LL xs) : jSA Γ qT 521 (o_aload 2) 1 := by
  obtain ⟨E1, E2, ⟨nm, C⟩, S⟩ := E
  exact so_aload_n C rfl dL_law_521
theorem oo_L_522 {Γ : jΓ} {b LL : Nat} {xs : Nat → Int32} (E : E_L Γ b LL xs) : jSA Γ qT 522 (o_aload 0) 1 := by
  obtain ⟨E1, E2, ⟨nm, C⟩, S⟩ := E
  exact so_aload_n C rfl dL_law_522
theorem oo_L_523 {Γ : jΓ} {b LL : Nat} {xs : Nat → Int32} (E : E_L Γ b LL xs) : jSA Γ qT 523 (o_iload 3) 1 := by
  obtain ⟨E1, E2, ⟨nm, C⟩, S⟩ := E
  exact so_iload_n C rfl dL_law_523
theorem oo_L_524 {Γ : jΓ} {b LL : Nat} {xs : Nat → Int32} (E : E_L Γ b LL xs) : jSA Γ qT 524 (o_ic (1)) 1 := by
  obtain ⟨E1, E2, ⟨nm, C⟩, S⟩ := E
  exact so_iconst C rfl dL_law_524
theorem oo_L_525 {Γ : jΓ} {b LL : Nat} {xs : Nat → Int32} (E : E_L Γ b LL xs) : jSA Γ qT 525 (o_iadd) 1 := by
  obtain ⟨E1, E2, ⟨nm, C⟩, S⟩ := E
  exact so_iadd C dL_law_525
theorem oo_L_526 {Γ : jΓ} {b LL : Nat} {xs : Nat → Int32} (E : E_L Γ b LL xs) : jSA Γ qT 526 (o_sld LL xs) 1 := by
  obtain ⟨E1, E2, ⟨nm, C⟩, S⟩ := E
  exact so_sld C S dL_law_526
theorem oo_L_527 {Γ : jΓ} {b LL : Nat} {xs : Nat → Int32} (E : E_L Γ b LL xs) : jSA Γ qT 527 (o_aload 0) 1 := by
  obtain ⟨E1, E2, ⟨nm, C⟩, S⟩ := E
  exact so_aload_n C rfl dL_law_527
theorem oo_L_528 {Γ : jΓ} {b LL : Nat} {xs : Nat → Int32} (E : E_L Γ b LL xs) : jSA Γ qT 528 (o_iload 3) 1 := by
  obtain ⟨E1, E2, ⟨nm, C⟩, S⟩ := E
  exact so_iload_n C rfl dL_law_528
theorem oo_L_529 {Γ : jΓ} {b LL : Nat} {xs : Nat → Int32} (E : E_L Γ b LL xs) : jSA Γ qT 529 (o_ic (2)) 1 := by
  obtain ⟨E1, E2, ⟨nm, C⟩, S⟩ := E
  exact so_iconst C rfl dL_law_529
theorem oo_L_530 {Γ : jΓ} {b LL : Nat} {xs : Nat → Int32} (E : E_L Γ b LL xs) : jSA Γ qT 530 (o_iadd) 1 := by
  obtain ⟨E1, E2, ⟨nm, C⟩, S⟩ := E
  exact so_iadd C dL_law_530
theorem oo_L_531 {Γ : jΓ} {b LL : Nat} {xs : Nat → Int32} (E : E_L Γ b LL xs) : jSA Γ qT 531 (o_sld LL xs) 1 := by
  obtain ⟨E1, E2, ⟨nm, C⟩, S⟩ := E
  exact so_sld C S dL_law_531
theorem oo_L_532 {Γ : jΓ} {b LL : Nat} {xs : Nat → Int32} (E : E_L Γ b LL xs) : jSA Γ qT 532 (o_callV 3 7 T_X7_visits) 3 := by
  obtain ⟨E1, E2, ⟨nm, C⟩, S⟩ := E
  exact so_callV C (ci := 7) (by rw [E2]; rfl) gL_law_X7_visits (by decide +kernel) rfl (by rw [E2]; exact m_X7_visits _) (by decide) (by decide) dL_law_532
theorem oo_L_535 {Γ : jΓ} {b LL : Nat} {xs : Nat → Int32} (E : E_L Γ b LL xs) : jSA Γ qT 535 (o_iceq 949) 3 := by
  obtain ⟨E1, E2, ⟨nm, C⟩, S⟩ := E
  exact so_iceq C (by decide) dL_law_535
theorem oo_L_538 {Γ : jΓ} {b LL : Nat} {xs : Nat → Int32} (E : E_L Γ b LL xs) : jSA Γ qT 538 (o_ic (0)) 1 := by
  obtain ⟨E1, E2, ⟨nm, C⟩, S⟩ := E
  exact so_iconst C rfl dL_law_538
theorem ok_L_521 {Γ : jΓ} {b LL : Nat} {xs : Nat → Int32} (E : E_L Γ b LL xs) : jSS Γ qT 521 (sg_L_521 LL xs) := ⟨oo_L_521 E, oo_L_522 E, oo_L_523 E, oo_L_524 E, oo_L_525 E, oo_L_526 E, oo_L_527 E, oo_L_528 E, oo_L_529 E, oo_L_530 E, oo_L_531 E, oo_L_532 E, oo_L_535 E, oo_L_538 E, trivial⟩
theorem H_L_521 {Γ : jΓ} {b LL : Nat} {xs : Nat → Int32} (E : E_L Γ b LL xs) : jHd cd_L (jG Γ) qT (sg_L_521 LL xs) 521 := fun n L st K h ce sl => jwp_ok (cd := cd_L) (Γ := Γ) (Q := qT) okc_L n (sg_L_521 LL xs) 521 (ok_L_521 E) L st K h ce sl
theorem oo_L_540 {Γ : jΓ} {b LL : Nat} {xs : Nat → Int32} (E : E_L Γ b LL xs) : jSA Γ qT 540 (o_aload 1) 1 := by
  obtain ⟨E1, E2, ⟨nm, C⟩, S⟩ := E
  exact so_aload_n C rfl dL_law_540
theorem oo_L_541 {Γ : jΓ} {b LL : Nat} {xs : Nat → Int32} (E : E_L Γ b LL xs) : jSA Γ qT 541 (o_aload 0) 1 := by
  obtain ⟨E1, E2, ⟨nm, C⟩, S⟩ := E
  exact so_aload_n C rfl dL_law_541
theorem oo_L_542 {Γ : jΓ} {b LL : Nat} {xs : Nat → Int32} (E : E_L Γ b LL xs) : jSA Γ qT 542 (o_iload 3) 1 := by
  obtain ⟨E1, E2, ⟨nm, C⟩, S⟩ := E
  exact so_iload_n C rfl dL_law_542
theorem oo_L_543 {Γ : jΓ} {b LL : Nat} {xs : Nat → Int32} (E : E_L Γ b LL xs) : jSA Γ qT 543 (o_ic (1)) 1 := by
  obtain ⟨E1, E2, ⟨nm, C⟩, S⟩ := E
  exact so_iconst C rfl dL_law_543
theorem oo_L_544 {Γ : jΓ} {b LL : Nat} {xs : Nat → Int32} (E : E_L Γ b LL xs) : jSA Γ qT 544 (o_iadd) 1 := by
  obtain ⟨E1, E2, ⟨nm, C⟩, S⟩ := E
  exact so_iadd C dL_law_544
theorem oo_L_545 {Γ : jΓ} {b LL : Nat} {xs : Nat → Int32} (E : E_L Γ b LL xs) : jSA Γ qT 545 (o_sld LL xs) 1 := by
  obtain ⟨E1, E2, ⟨nm, C⟩, S⟩ := E
  exact so_sld C S dL_law_545
theorem oo_L_546 {Γ : jΓ} {b LL : Nat} {xs : Nat → Int32} (E : E_L Γ b LL xs) : jSA Γ qT 546 (o_callV 2 6 T_X6_count) 3 := by
  obtain ⟨E1, E2, ⟨nm, C⟩, S⟩ := E
  exact so_callV C (ci := 6) (by rw [E2]; rfl) gL_law_X6_count (by decide +kernel) rfl (by rw [E2]; exact m_X6_count _) (by decide) (by decide) dL_law_546
theorem ok_L_540 {Γ : jΓ} {b LL : Nat} {xs : Nat → Int32} (E : E_L Γ b LL xs) : jSS Γ qT 540 (sg_L_540 LL xs) := ⟨oo_L_540 E, oo_L_541 E, oo_L_542 E, oo_L_543 E, oo_L_544 E, oo_L_545 E, oo_L_546 E, trivial⟩
theorem H_L_540 {Γ : jΓ} {b LL : Nat} {xs : Nat → Int32} (E : E_L Γ b LL xs) : jHd cd_L (jG Γ) qT (sg_L_540 LL xs) 540 := fun n L st K h ce sl => jwp_ok (cd := cd_L) (Γ := Γ) (Q := qT) okc_L n (sg_L_540 LL xs) 540 (ok_L_540 E) L st K h ce sl
theorem oo_L_549 {Γ : jΓ} {b LL : Nat} {xs : Nat → Int32} (E : E_L Γ b LL xs) : jSA Γ qT 549 (o_aload 2) 1 := by
  obtain ⟨E1, E2, ⟨nm, C⟩, S⟩ := E
  exact so_aload_n C rfl dL_law_549
theorem oo_L_550 {Γ : jΓ} {b LL : Nat} {xs : Nat → Int32} (E : E_L Γ b LL xs) : jSA Γ qT 550 (o_aload 0) 1 := by
  obtain ⟨E1, E2, ⟨nm, C⟩, S⟩ := E
  exact so_aload_n C rfl dL_law_550
theorem oo_L_551 {Γ : jΓ} {b LL : Nat} {xs : Nat → Int32} (E : E_L Γ b LL xs) : jSA Γ qT 551 (o_iload 3) 1 := by
  obtain ⟨E1, E2, ⟨nm, C⟩, S⟩ := E
  exact so_iload_n C rfl dL_law_551
theorem oo_L_552 {Γ : jΓ} {b LL : Nat} {xs : Nat → Int32} (E : E_L Γ b LL xs) : jSA Γ qT 552 (o_ic (1)) 1 := by
  obtain ⟨E1, E2, ⟨nm, C⟩, S⟩ := E
  exact so_iconst C rfl dL_law_552
theorem oo_L_553 {Γ : jΓ} {b LL : Nat} {xs : Nat → Int32} (E : E_L Γ b LL xs) : jSA Γ qT 553 (o_iadd) 1 := by
  obtain ⟨E1, E2, ⟨nm, C⟩, S⟩ := E
  exact so_iadd C dL_law_553
theorem oo_L_554 {Γ : jΓ} {b LL : Nat} {xs : Nat → Int32} (E : E_L Γ b LL xs) : jSA Γ qT 554 (o_sld LL xs) 1 := by
  obtain ⟨E1, E2, ⟨nm, C⟩, S⟩ := E
  exact so_sld C S dL_law_554
theorem oo_L_555 {Γ : jΓ} {b LL : Nat} {xs : Nat → Int32} (E : E_L Γ b LL xs) : jSA Γ qT 555 (o_callV 2 7 T_X7_count) 3 := by
  obtain ⟨E1, E2, ⟨nm, C⟩, S⟩ := E
  exact so_callV C (ci := 7) (by rw [E2]; rfl) gL_law_X7_count (by decide +kernel) rfl (by rw [E2]; exact m_X7_count _) (by decide) (by decide) dL_law_555
theorem oo_L_558 {Γ : jΓ} {b LL : Nat} {xs : Nat → Int32} (E : E_L Γ b LL xs) : jSA Γ qT 558 (o_iceq 949) 3 := by
  obtain ⟨E1, E2, ⟨nm, C⟩, S⟩ := E
  exact so_iceq C (by decide) dL_law_558
theorem oo_L_561 {Γ : jΓ} {b LL : Nat} {xs : Nat → Int32} (E : E_L Γ b LL xs) : jSA Γ qT 561 (o_ic (0)) 1 := by
  obtain ⟨E1, E2, ⟨nm, C⟩, S⟩ := E
  exact so_iconst C rfl dL_law_561
theorem ok_L_549 {Γ : jΓ} {b LL : Nat} {xs : Nat → Int32} (E : E_L Γ b LL xs) : jSS Γ qT 549 (sg_L_549 LL xs) := ⟨oo_L_549 E, oo_L_550 E, oo_L_551 E, oo_L_552 E, oo_L_553 E, oo_L_554 E, oo_L_555 E, oo_L_558 E, oo_L_561 E, trivial⟩
theorem H_L_549 {Γ : jΓ} {b LL : Nat} {xs : Nat → Int32} (E : E_L Γ b LL xs) : jHd cd_L (jG Γ) qT (sg_L_549 LL xs) 549 := fun n L st K h ce sl => jwp_ok (cd := cd_L) (Γ := Γ) (Q := qT) okc_L n (sg_L_549 LL xs) 549 (ok_L_549 E) L st K h ce sl
theorem oo_L_563 {Γ : jΓ} {b LL : Nat} {xs : Nat → Int32} (E : E_L Γ b LL xs) : jSA Γ qT 563 (o_aload 1) 1 := by
  obtain ⟨E1, E2, ⟨nm, C⟩, S⟩ := E
  exact so_aload_n C rfl dL_law_563
theorem oo_L_564 {Γ : jΓ} {b LL : Nat} {xs : Nat → Int32} (E : E_L Γ b LL xs) : jSA Γ qT 564 (o_aload 0) 1 := by
  obtain ⟨E1, E2, ⟨nm, C⟩, S⟩ := E
  exact so_aload_n C rfl dL_law_564
theorem oo_L_565 {Γ : jΓ} {b LL : Nat} {xs : Nat → Int32} (E : E_L Γ b LL xs) : jSA Γ qT 565 (o_iload 3) 1 := by
  obtain ⟨E1, E2, ⟨nm, C⟩, S⟩ := E
  exact so_iload_n C rfl dL_law_565
theorem oo_L_566 {Γ : jΓ} {b LL : Nat} {xs : Nat → Int32} (E : E_L Γ b LL xs) : jSA Γ qT 566 (o_ic (1)) 1 := by
  obtain ⟨E1, E2, ⟨nm, C⟩, S⟩ := E
  exact so_iconst C rfl dL_law_566
theorem oo_L_567 {Γ : jΓ} {b LL : Nat} {xs : Nat → Int32} (E : E_L Γ b LL xs) : jSA Γ qT 567 (o_iadd) 1 := by
  obtain ⟨E1, E2, ⟨nm, C⟩, S⟩ := E
  exact so_iadd C dL_law_567
theorem oo_L_568 {Γ : jΓ} {b LL : Nat} {xs : Nat → Int32} (E : E_L Γ b LL xs) : jSA Γ qT 568 (o_sld LL xs) 1 := by
  obtain ⟨E1, E2, ⟨nm, C⟩, S⟩ := E
  exact so_sld C S dL_law_568
theorem oo_L_569 {Γ : jΓ} {b LL : Nat} {xs : Nat → Int32} (E : E_L Γ b LL xs) : jSA Γ qT 569 (o_callV 2 6 T_X6_bounds) 3 := by
  obtain ⟨E1, E2, ⟨nm, C⟩, S⟩ := E
  exact so_callV C (ci := 6) (by rw [E2]; rfl) gL_law_X6_bounds (by decide +kernel) rfl (by rw [E2]; exact m_X6_bounds _) (by decide) (by decide) dL_law_569
theorem ok_L_563 {Γ : jΓ} {b LL : Nat} {xs : Nat → Int32} (E : E_L Γ b LL xs) : jSS Γ qT 563 (sg_L_563 LL xs) := ⟨oo_L_563 E, oo_L_564 E, oo_L_565 E, oo_L_566 E, oo_L_567 E, oo_L_568 E, oo_L_569 E, trivial⟩
theorem H_L_563 {Γ : jΓ} {b LL : Nat} {xs : Nat → Int32} (E : E_L Γ b LL xs) : jHd cd_L (jG Γ) qT (sg_L_563 LL xs) 563 := fun n L st K h ce sl => jwp_ok (cd := cd_L) (Γ := Γ) (Q := qT) okc_L n (sg_L_563 LL xs) 563 (ok_L_563 E) L st K h ce sl
theorem oo_L_572 {Γ : jΓ} {b LL : Nat} {xs : Nat → Int32} (E : E_L Γ b LL xs) : jSA Γ qT 572 (o_aload 2) 1 := by
  obtain ⟨E1, E2, ⟨nm, C⟩, S⟩ := E
  exact so_aload_n C rfl dL_law_572
theorem oo_L_573 {Γ : jΓ} {b LL : Nat} {xs : Nat → Int32} (E : E_L Γ b LL xs) : jSA Γ qT 573 (o_aload 0) 1 := by
  obtain ⟨E1, E2, ⟨nm, C⟩, S⟩ := E
  exact so_aload_n C rfl dL_law_573
theorem oo_L_574 {Γ : jΓ} {b LL : Nat} {xs : Nat → Int32} (E : E_L Γ b LL xs) : jSA Γ qT 574 (o_iload 3) 1 := by
  obtain ⟨E1, E2, ⟨nm, C⟩, S⟩ := E
  exact so_iload_n C rfl dL_law_574
theorem oo_L_575 {Γ : jΓ} {b LL : Nat} {xs : Nat → Int32} (E : E_L Γ b LL xs) : jSA Γ qT 575 (o_ic (1)) 1 := by
  obtain ⟨E1, E2, ⟨nm, C⟩, S⟩ := E
  exact so_iconst C rfl dL_law_575
theorem oo_L_576 {Γ : jΓ} {b LL : Nat} {xs : Nat → Int32} (E : E_L Γ b LL xs) : jSA Γ qT 576 (o_iadd) 1 := by
  obtain ⟨E1, E2, ⟨nm, C⟩, S⟩ := E
  exact so_iadd C dL_law_576
theorem oo_L_577 {Γ : jΓ} {b LL : Nat} {xs : Nat → Int32} (E : E_L Γ b LL xs) : jSA Γ qT 577 (o_sld LL xs) 1 := by
  obtain ⟨E1, E2, ⟨nm, C⟩, S⟩ := E
  exact so_sld C S dL_law_577
theorem oo_L_578 {Γ : jΓ} {b LL : Nat} {xs : Nat → Int32} (E : E_L Γ b LL xs) : jSA Γ qT 578 (o_callV 2 7 T_X7_bounds) 3 := by
  obtain ⟨E1, E2, ⟨nm, C⟩, S⟩ := E
  exact so_callV C (ci := 7) (by rw [E2]; rfl) gL_law_X7_bounds (by decide +kernel) rfl (by rw [E2]; exact m_X7_bounds _) (by decide) (by decide) dL_law_578
theorem oo_L_581 {Γ : jΓ} {b LL : Nat} {xs : Nat → Int32} (E : E_L Γ b LL xs) : jSA Γ qT 581 (o_iceq 949) 3 := by
  obtain ⟨E1, E2, ⟨nm, C⟩, S⟩ := E
  exact so_iceq C (by decide) dL_law_581
theorem oo_L_584 {Γ : jΓ} {b LL : Nat} {xs : Nat → Int32} (E : E_L Γ b LL xs) : jSA Γ qT 584 (o_ic (0)) 1 := by
  obtain ⟨E1, E2, ⟨nm, C⟩, S⟩ := E
  exact so_iconst C rfl dL_law_584
theorem ok_L_572 {Γ : jΓ} {b LL : Nat} {xs : Nat → Int32} (E : E_L Γ b LL xs) : jSS Γ qT 572 (sg_L_572 LL xs) := ⟨oo_L_572 E, oo_L_573 E, oo_L_574 E, oo_L_575 E, oo_L_576 E, oo_L_577 E, oo_L_578 E, oo_L_581 E, oo_L_584 E, trivial⟩
theorem H_L_572 {Γ : jΓ} {b LL : Nat} {xs : Nat → Int32} (E : E_L Γ b LL xs) : jHd cd_L (jG Γ) qT (sg_L_572 LL xs) 572 := fun n L st K h ce sl => jwp_ok (cd := cd_L) (Γ := Γ) (Q := qT) okc_L n (sg_L_572 LL xs) 572 (ok_L_572 E) L st K h ce sl
theorem oo_L_586 {Γ : jΓ} {b LL : Nat} {xs : Nat → Int32} (E : E_L Γ b LL xs) : jSA Γ qT 586 (o_aload 1) 1 := by
  obtain ⟨E1, E2, ⟨nm, C⟩, S⟩ := E
  exact so_aload_n C rfl dL_law_586
theorem oo_L_587 {Γ : jΓ} {b LL : Nat} {xs : Nat → Int32} (E : E_L Γ b LL xs) : jSA Γ qT 587 (o_callV 1 6 T_X6_digest) 3 := by
  obtain ⟨E1, E2, ⟨nm, C⟩, S⟩ := E
  exact so_callV C (ci := 6) (by rw [E2]; rfl) gL_law_X6_digest (by decide +kernel) rfl (by rw [E2]; exact m_X6_digest _) (by decide) (by decide) dL_law_587
theorem ok_L_586 {Γ : jΓ} {b LL : Nat} {xs : Nat → Int32} (E : E_L Γ b LL xs) : jSS Γ qT 586 (sg_L_586 LL xs) := ⟨oo_L_586 E, oo_L_587 E, trivial⟩
theorem H_L_586 {Γ : jΓ} {b LL : Nat} {xs : Nat → Int32} (E : E_L Γ b LL xs) : jHd cd_L (jG Γ) qT (sg_L_586 LL xs) 586 := fun n L st K h ce sl => jwp_ok (cd := cd_L) (Γ := Γ) (Q := qT) okc_L n (sg_L_586 LL xs) 586 (ok_L_586 E) L st K h ce sl
theorem oo_L_590 {Γ : jΓ} {b LL : Nat} {xs : Nat → Int32} (E : E_L Γ b LL xs) : jSA Γ qT 590 (o_aload 2) 1 := by
  obtain ⟨E1, E2, ⟨nm, C⟩, S⟩ := E
  exact so_aload_n C rfl dL_law_590
theorem oo_L_591 {Γ : jΓ} {b LL : Nat} {xs : Nat → Int32} (E : E_L Γ b LL xs) : jSA Γ qT 591 (o_callV 1 7 T_X7_digest) 3 := by
  obtain ⟨E1, E2, ⟨nm, C⟩, S⟩ := E
  exact so_callV C (ci := 7) (by rw [E2]; rfl) gL_law_X7_digest (by decide +kernel) rfl (by rw [E2]; exact m_X7_digest _) (by decide) (by decide) dL_law_591
theorem oo_L_594 {Γ : jΓ} {b LL : Nat} {xs : Nat → Int32} (E : E_L Γ b LL xs) : jSA Γ qT 594 (o_lcmp) 1 := by
  obtain ⟨E1, E2, ⟨nm, C⟩, S⟩ := E
  exact so_lcmp C dL_law_594
theorem oo_L_595 {Γ : jΓ} {b LL : Nat} {xs : Nat → Int32} (E : E_L Γ b LL xs) : jSA Γ qT 595 (o_ifeq 949) 3 := by
  obtain ⟨E1, E2, ⟨nm, C⟩, S⟩ := E
  exact so_ifeq C (by decide) dL_law_595
theorem oo_L_598 {Γ : jΓ} {b LL : Nat} {xs : Nat → Int32} (E : E_L Γ b LL xs) : jSA Γ qT 598 (o_ic (0)) 1 := by
  obtain ⟨E1, E2, ⟨nm, C⟩, S⟩ := E
  exact so_iconst C rfl dL_law_598
theorem ok_L_590 {Γ : jΓ} {b LL : Nat} {xs : Nat → Int32} (E : E_L Γ b LL xs) : jSS Γ qT 590 (sg_L_590 LL xs) := ⟨oo_L_590 E, oo_L_591 E, oo_L_594 E, oo_L_595 E, oo_L_598 E, trivial⟩
theorem H_L_590 {Γ : jΓ} {b LL : Nat} {xs : Nat → Int32} (E : E_L Γ b LL xs) : jHd cd_L (jG Γ) qT (sg_L_590 LL xs) 590 := fun n L st K h ce sl => jwp_ok (cd := cd_L) (Γ := Γ) (Q := qT) okc_L n (sg_L_590 LL xs) 590 (ok_L_590 E) L st K h ce sl
theorem oo_L_600 {Γ : jΓ} {b LL : Nat} {xs : Nat → Int32} (E : E_L Γ b LL xs) : jSA Γ qT 600 (o_aload 1) 1 := by
  obtain ⟨E1, E2, ⟨nm, C⟩, S⟩ := E
  exact so_aload_n C rfl dL_law_600
theorem oo_L_601 {Γ : jΓ} {b LL : Nat} {xs : Nat → Int32} (E : E_L Γ b LL xs) : jSA Γ qT 601 (o_callV 1 6 T_X6_mark) 3 := by
  obtain ⟨E1, E2, ⟨nm, C⟩, S⟩ := E
  exact so_callV C (ci := 6) (by rw [E2]; rfl) gL_law_X6_mark (by decide +kernel) rfl (by rw [E2]; exact m_X6_mark _) (by decide) (by decide) dL_law_601
theorem ok_L_600 {Γ : jΓ} {b LL : Nat} {xs : Nat → Int32} (E : E_L Γ b LL xs) : jSS Γ qT 600 (sg_L_600 LL xs) := ⟨oo_L_600 E, oo_L_601 E, trivial⟩
theorem H_L_600 {Γ : jΓ} {b LL : Nat} {xs : Nat → Int32} (E : E_L Γ b LL xs) : jHd cd_L (jG Γ) qT (sg_L_600 LL xs) 600 := fun n L st K h ce sl => jwp_ok (cd := cd_L) (Γ := Γ) (Q := qT) okc_L n (sg_L_600 LL xs) 600 (ok_L_600 E) L st K h ce sl
theorem oo_L_604 {Γ : jΓ} {b LL : Nat} {xs : Nat → Int32} (E : E_L Γ b LL xs) : jSA Γ qT 604 (o_aload 2) 1 := by
  obtain ⟨E1, E2, ⟨nm, C⟩, S⟩ := E
  exact so_aload_n C rfl dL_law_604
theorem oo_L_605 {Γ : jΓ} {b LL : Nat} {xs : Nat → Int32} (E : E_L Γ b LL xs) : jSA Γ qT 605 (o_callV 1 7 T_X7_mark) 3 := by
  obtain ⟨E1, E2, ⟨nm, C⟩, S⟩ := E
  exact so_callV C (ci := 7) (by rw [E2]; rfl) gL_law_X7_mark (by decide +kernel) rfl (by rw [E2]; exact m_X7_mark _) (by decide) (by decide) dL_law_605
theorem oo_L_608 {Γ : jΓ} {b LL : Nat} {xs : Nat → Int32} (E : E_L Γ b LL xs) : jSA Γ qT 608 (o_iceq 949) 3 := by
  obtain ⟨E1, E2, ⟨nm, C⟩, S⟩ := E
  exact so_iceq C (by decide) dL_law_608
theorem oo_L_611 {Γ : jΓ} {b LL : Nat} {xs : Nat → Int32} (E : E_L Γ b LL xs) : jSA Γ qT 611 (o_ic (0)) 1 := by
  obtain ⟨E1, E2, ⟨nm, C⟩, S⟩ := E
  exact so_iconst C rfl dL_law_611
theorem ok_L_604 {Γ : jΓ} {b LL : Nat} {xs : Nat → Int32} (E : E_L Γ b LL xs) : jSS Γ qT 604 (sg_L_604 LL xs) := ⟨oo_L_604 E, oo_L_605 E, oo_L_608 E, oo_L_611 E, trivial⟩
theorem H_L_604 {Γ : jΓ} {b LL : Nat} {xs : Nat → Int32} (E : E_L Γ b LL xs) : jHd cd_L (jG Γ) qT (sg_L_604 LL xs) 604 := fun n L st K h ce sl => jwp_ok (cd := cd_L) (Γ := Γ) (Q := qT) okc_L n (sg_L_604 LL xs) 604 (ok_L_604 E) L st K h ce sl
theorem oo_L_613 {Γ : jΓ} {b LL : Nat} {xs : Nat → Int32} (E : E_L Γ b LL xs) : jSA Γ qT 613 (o_aload 1) 1 := by
  obtain ⟨E1, E2, ⟨nm, C⟩, S⟩ := E
  exact so_aload_n C rfl dL_law_613
theorem oo_L_614 {Γ : jΓ} {b LL : Nat} {xs : Nat → Int32} (E : E_L Γ b LL xs) : jSA Γ qT 614 (o_aload 0) 1 := by
  obtain ⟨E1, E2, ⟨nm, C⟩, S⟩ := E
  exact so_aload_n C rfl dL_law_614
theorem oo_L_615 {Γ : jΓ} {b LL : Nat} {xs : Nat → Int32} (E : E_L Γ b LL xs) : jSA Γ qT 615 (o_iload 3) 1 := by
  obtain ⟨E1, E2, ⟨nm, C⟩, S⟩ := E
  exact so_iload_n C rfl dL_law_615
theorem oo_L_616 {Γ : jΓ} {b LL : Nat} {xs : Nat → Int32} (E : E_L Γ b LL xs) : jSA Γ qT 616 (o_ic (1)) 1 := by
  obtain ⟨E1, E2, ⟨nm, C⟩, S⟩ := E
  exact so_iconst C rfl dL_law_616
theorem oo_L_617 {Γ : jΓ} {b LL : Nat} {xs : Nat → Int32} (E : E_L Γ b LL xs) : jSA Γ qT 617 (o_iadd) 1 := by
  obtain ⟨E1, E2, ⟨nm, C⟩, S⟩ := E
  exact so_iadd C dL_law_617
theorem oo_L_618 {Γ : jΓ} {b LL : Nat} {xs : Nat → Int32} (E : E_L Γ b LL xs) : jSA Γ qT 618 (o_sld LL xs) 1 := by
  obtain ⟨E1, E2, ⟨nm, C⟩, S⟩ := E
  exact so_sld C S dL_law_618
theorem oo_L_619 {Γ : jΓ} {b LL : Nat} {xs : Nat → Int32} (E : E_L Γ b LL xs) : jSA Γ qT 619 (o_callV 2 6 T_X6_road) 3 := by
  obtain ⟨E1, E2, ⟨nm, C⟩, S⟩ := E
  exact so_callV C (ci := 6) (by rw [E2]; rfl) gL_law_X6_road (by decide +kernel) rfl (by rw [E2]; exact m_X6_road _) (by decide) (by decide) dL_law_619
theorem ok_L_613 {Γ : jΓ} {b LL : Nat} {xs : Nat → Int32} (E : E_L Γ b LL xs) : jSS Γ qT 613 (sg_L_613 LL xs) := ⟨oo_L_613 E, oo_L_614 E, oo_L_615 E, oo_L_616 E, oo_L_617 E, oo_L_618 E, oo_L_619 E, trivial⟩
theorem H_L_613 {Γ : jΓ} {b LL : Nat} {xs : Nat → Int32} (E : E_L Γ b LL xs) : jHd cd_L (jG Γ) qT (sg_L_613 LL xs) 613 := fun n L st K h ce sl => jwp_ok (cd := cd_L) (Γ := Γ) (Q := qT) okc_L n (sg_L_613 LL xs) 613 (ok_L_613 E) L st K h ce sl
theorem oo_L_622 {Γ : jΓ} {b LL : Nat} {xs : Nat → Int32} (E : E_L Γ b LL xs) : jSA Γ qT 622 (o_aload 2) 1 := by
  obtain ⟨E1, E2, ⟨nm, C⟩, S⟩ := E
  exact so_aload_n C rfl dL_law_622
theorem oo_L_623 {Γ : jΓ} {b LL : Nat} {xs : Nat → Int32} (E : E_L Γ b LL xs) : jSA Γ qT 623 (o_aload 0) 1 := by
  obtain ⟨E1, E2, ⟨nm, C⟩, S⟩ := E
  exact so_aload_n C rfl dL_law_623
theorem oo_L_624 {Γ : jΓ} {b LL : Nat} {xs : Nat → Int32} (E : E_L Γ b LL xs) : jSA Γ qT 624 (o_iload 3) 1 := by
  obtain ⟨E1, E2, ⟨nm, C⟩, S⟩ := E
  exact so_iload_n C rfl dL_law_624
theorem oo_L_625 {Γ : jΓ} {b LL : Nat} {xs : Nat → Int32} (E : E_L Γ b LL xs) : jSA Γ qT 625 (o_ic (1)) 1 := by
  obtain ⟨E1, E2, ⟨nm, C⟩, S⟩ := E
  exact so_iconst C rfl dL_law_625
theorem oo_L_626 {Γ : jΓ} {b LL : Nat} {xs : Nat → Int32} (E : E_L Γ b LL xs) : jSA Γ qT 626 (o_iadd) 1 := by
  obtain ⟨E1, E2, ⟨nm, C⟩, S⟩ := E
  exact so_iadd C dL_law_626
theorem oo_L_627 {Γ : jΓ} {b LL : Nat} {xs : Nat → Int32} (E : E_L Γ b LL xs) : jSA Γ qT 627 (o_sld LL xs) 1 := by
  obtain ⟨E1, E2, ⟨nm, C⟩, S⟩ := E
  exact so_sld C S dL_law_627
theorem oo_L_628 {Γ : jΓ} {b LL : Nat} {xs : Nat → Int32} (E : E_L Γ b LL xs) : jSA Γ qT 628 (o_callV 2 7 T_X7_road) 3 := by
  obtain ⟨E1, E2, ⟨nm, C⟩, S⟩ := E
  exact so_callV C (ci := 7) (by rw [E2]; rfl) gL_law_X7_road (by decide +kernel) rfl (by rw [E2]; exact m_X7_road _) (by decide) (by decide) dL_law_628
theorem oo_L_631 {Γ : jΓ} {b LL : Nat} {xs : Nat → Int32} (E : E_L Γ b LL xs) : jSA Γ qT 631 (o_iceq 949) 3 := by
  obtain ⟨E1, E2, ⟨nm, C⟩, S⟩ := E
  exact so_iceq C (by decide) dL_law_631
theorem oo_L_634 {Γ : jΓ} {b LL : Nat} {xs : Nat → Int32} (E : E_L Γ b LL xs) : jSA Γ qT 634 (o_ic (0)) 1 := by
  obtain ⟨E1, E2, ⟨nm, C⟩, S⟩ := E
  exact so_iconst C rfl dL_law_634
theorem ok_L_622 {Γ : jΓ} {b LL : Nat} {xs : Nat → Int32} (E : E_L Γ b LL xs) : jSS Γ qT 622 (sg_L_622 LL xs) := ⟨oo_L_622 E, oo_L_623 E, oo_L_624 E, oo_L_625 E, oo_L_626 E, oo_L_627 E, oo_L_628 E, oo_L_631 E, oo_L_634 E, trivial⟩
theorem H_L_622 {Γ : jΓ} {b LL : Nat} {xs : Nat → Int32} (E : E_L Γ b LL xs) : jHd cd_L (jG Γ) qT (sg_L_622 LL xs) 622 := fun n L st K h ce sl => jwp_ok (cd := cd_L) (Γ := Γ) (Q := qT) okc_L n (sg_L_622 LL xs) 622 (ok_L_622 E) L st K h ce sl
theorem oo_L_636 {Γ : jΓ} {b LL : Nat} {xs : Nat → Int32} (E : E_L Γ b LL xs) : jSA Γ qT 636 (o_aload 1) 1 := by
  obtain ⟨E1, E2, ⟨nm, C⟩, S⟩ := E
  exact so_aload_n C rfl dL_law_636
theorem oo_L_637 {Γ : jΓ} {b LL : Nat} {xs : Nat → Int32} (E : E_L Γ b LL xs) : jSA Γ qT 637 (o_callV 1 6 T_X6_differ) 3 := by
  obtain ⟨E1, E2, ⟨nm, C⟩, S⟩ := E
  exact so_callV C (ci := 6) (by rw [E2]; rfl) gL_law_X6_differ (by decide +kernel) rfl (by rw [E2]; exact m_X6_differ _) (by decide) (by decide) dL_law_637
theorem ok_L_636 {Γ : jΓ} {b LL : Nat} {xs : Nat → Int32} (E : E_L Γ b LL xs) : jSS Γ qT 636 (sg_L_636 LL xs) := ⟨oo_L_636 E, oo_L_637 E, trivial⟩
theorem H_L_636 {Γ : jΓ} {b LL : Nat} {xs : Nat → Int32} (E : E_L Γ b LL xs) : jHd cd_L (jG Γ) qT (sg_L_636 LL xs) 636 := fun n L st K h ce sl => jwp_ok (cd := cd_L) (Γ := Γ) (Q := qT) okc_L n (sg_L_636 LL xs) 636 (ok_L_636 E) L st K h ce sl
theorem oo_L_640 {Γ : jΓ} {b LL : Nat} {xs : Nat → Int32} (E : E_L Γ b LL xs) : jSA Γ qT 640 (o_aload 2) 1 := by
  obtain ⟨E1, E2, ⟨nm, C⟩, S⟩ := E
  exact so_aload_n C rfl dL_law_640
theorem oo_L_641 {Γ : jΓ} {b LL : Nat} {xs : Nat → Int32} (E : E_L Γ b LL xs) : jSA Γ qT 641 (o_callV 1 7 T_X7_differ) 3 := by
  obtain ⟨E1, E2, ⟨nm, C⟩, S⟩ := E
  exact so_callV C (ci := 7) (by rw [E2]; rfl) gL_law_X7_differ (by decide +kernel) rfl (by rw [E2]; exact m_X7_differ _) (by decide) (by decide) dL_law_641
theorem oo_L_644 {Γ : jΓ} {b LL : Nat} {xs : Nat → Int32} (E : E_L Γ b LL xs) : jSA Γ qT 644 (o_iceq 949) 3 := by
  obtain ⟨E1, E2, ⟨nm, C⟩, S⟩ := E
  exact so_iceq C (by decide) dL_law_644
theorem oo_L_647 {Γ : jΓ} {b LL : Nat} {xs : Nat → Int32} (E : E_L Γ b LL xs) : jSA Γ qT 647 (o_ic (0)) 1 := by
  obtain ⟨E1, E2, ⟨nm, C⟩, S⟩ := E
  exact so_iconst C rfl dL_law_647
theorem ok_L_640 {Γ : jΓ} {b LL : Nat} {xs : Nat → Int32} (E : E_L Γ b LL xs) : jSS Γ qT 640 (sg_L_640 LL xs) := ⟨oo_L_640 E, oo_L_641 E, oo_L_644 E, oo_L_647 E, trivial⟩
theorem H_L_640 {Γ : jΓ} {b LL : Nat} {xs : Nat → Int32} (E : E_L Γ b LL xs) : jHd cd_L (jG Γ) qT (sg_L_640 LL xs) 640 := fun n L st K h ce sl => jwp_ok (cd := cd_L) (Γ := Γ) (Q := qT) okc_L n (sg_L_640 LL xs) 640 (ok_L_640 E) L st K h ce sl
theorem oo_L_649 {Γ : jΓ} {b LL : Nat} {xs : Nat → Int32} (E : E_L Γ b LL xs) : jSA Γ qT 649 (o_aload 1) 1 := by
  obtain ⟨E1, E2, ⟨nm, C⟩, S⟩ := E
  exact so_aload_n C rfl dL_law_649
theorem oo_L_650 {Γ : jΓ} {b LL : Nat} {xs : Nat → Int32} (E : E_L Γ b LL xs) : jSA Γ qT 650 (o_aload 0) 1 := by
  obtain ⟨E1, E2, ⟨nm, C⟩, S⟩ := E
  exact so_aload_n C rfl dL_law_650
theorem oo_L_651 {Γ : jΓ} {b LL : Nat} {xs : Nat → Int32} (E : E_L Γ b LL xs) : jSA Γ qT 651 (o_iload 3) 1 := by
  obtain ⟨E1, E2, ⟨nm, C⟩, S⟩ := E
  exact so_iload_n C rfl dL_law_651
theorem oo_L_652 {Γ : jΓ} {b LL : Nat} {xs : Nat → Int32} (E : E_L Γ b LL xs) : jSA Γ qT 652 (o_ic (1)) 1 := by
  obtain ⟨E1, E2, ⟨nm, C⟩, S⟩ := E
  exact so_iconst C rfl dL_law_652
theorem oo_L_653 {Γ : jΓ} {b LL : Nat} {xs : Nat → Int32} (E : E_L Γ b LL xs) : jSA Γ qT 653 (o_iadd) 1 := by
  obtain ⟨E1, E2, ⟨nm, C⟩, S⟩ := E
  exact so_iadd C dL_law_653
theorem oo_L_654 {Γ : jΓ} {b LL : Nat} {xs : Nat → Int32} (E : E_L Γ b LL xs) : jSA Γ qT 654 (o_sld LL xs) 1 := by
  obtain ⟨E1, E2, ⟨nm, C⟩, S⟩ := E
  exact so_sld C S dL_law_654
theorem oo_L_655 {Γ : jΓ} {b LL : Nat} {xs : Nat → Int32} (E : E_L Γ b LL xs) : jSA Γ qT 655 (o_aload 0) 1 := by
  obtain ⟨E1, E2, ⟨nm, C⟩, S⟩ := E
  exact so_aload_n C rfl dL_law_655
theorem oo_L_656 {Γ : jΓ} {b LL : Nat} {xs : Nat → Int32} (E : E_L Γ b LL xs) : jSA Γ qT 656 (o_iload 3) 1 := by
  obtain ⟨E1, E2, ⟨nm, C⟩, S⟩ := E
  exact so_iload_n C rfl dL_law_656
theorem oo_L_657 {Γ : jΓ} {b LL : Nat} {xs : Nat → Int32} (E : E_L Γ b LL xs) : jSA Γ qT 657 (o_ic (2)) 1 := by
  obtain ⟨E1, E2, ⟨nm, C⟩, S⟩ := E
  exact so_iconst C rfl dL_law_657
theorem oo_L_658 {Γ : jΓ} {b LL : Nat} {xs : Nat → Int32} (E : E_L Γ b LL xs) : jSA Γ qT 658 (o_iadd) 1 := by
  obtain ⟨E1, E2, ⟨nm, C⟩, S⟩ := E
  exact so_iadd C dL_law_658
theorem oo_L_659 {Γ : jΓ} {b LL : Nat} {xs : Nat → Int32} (E : E_L Γ b LL xs) : jSA Γ qT 659 (o_sld LL xs) 1 := by
  obtain ⟨E1, E2, ⟨nm, C⟩, S⟩ := E
  exact so_sld C S dL_law_659
theorem oo_L_660 {Γ : jΓ} {b LL : Nat} {xs : Nat → Int32} (E : E_L Γ b LL xs) : jSA Γ qT 660 (o_aload 0) 1 := by
  obtain ⟨E1, E2, ⟨nm, C⟩, S⟩ := E
  exact so_aload_n C rfl dL_law_660
theorem oo_L_661 {Γ : jΓ} {b LL : Nat} {xs : Nat → Int32} (E : E_L Γ b LL xs) : jSA Γ qT 661 (o_iload 3) 1 := by
  obtain ⟨E1, E2, ⟨nm, C⟩, S⟩ := E
  exact so_iload_n C rfl dL_law_661
theorem oo_L_662 {Γ : jΓ} {b LL : Nat} {xs : Nat → Int32} (E : E_L Γ b LL xs) : jSA Γ qT 662 (o_ic (3)) 1 := by
  obtain ⟨E1, E2, ⟨nm, C⟩, S⟩ := E
  exact so_iconst C rfl dL_law_662
theorem oo_L_663 {Γ : jΓ} {b LL : Nat} {xs : Nat → Int32} (E : E_L Γ b LL xs) : jSA Γ qT 663 (o_iadd) 1 := by
  obtain ⟨E1, E2, ⟨nm, C⟩, S⟩ := E
  exact so_iadd C dL_law_663
theorem oo_L_664 {Γ : jΓ} {b LL : Nat} {xs : Nat → Int32} (E : E_L Γ b LL xs) : jSA Γ qT 664 (o_sld LL xs) 1 := by
  obtain ⟨E1, E2, ⟨nm, C⟩, S⟩ := E
  exact so_sld C S dL_law_664
theorem oo_L_665 {Γ : jΓ} {b LL : Nat} {xs : Nat → Int32} (E : E_L Γ b LL xs) : jSA Γ qT 665 (o_callV 4 6 T_X6_like) 3 := by
  obtain ⟨E1, E2, ⟨nm, C⟩, S⟩ := E
  exact so_callV C (ci := 6) (by rw [E2]; rfl) gL_law_X6_like (by decide +kernel) rfl (by rw [E2]; exact m_X6_like _) (by decide) (by decide) dL_law_665
theorem ok_L_649 {Γ : jΓ} {b LL : Nat} {xs : Nat → Int32} (E : E_L Γ b LL xs) : jSS Γ qT 649 (sg_L_649 LL xs) := ⟨oo_L_649 E, oo_L_650 E, oo_L_651 E, oo_L_652 E, oo_L_653 E, oo_L_654 E, oo_L_655 E, oo_L_656 E, oo_L_657 E, oo_L_658 E, oo_L_659 E, oo_L_660 E, oo_L_661 E, oo_L_662 E, oo_L_663 E, oo_L_664 E, oo_L_665 E, trivial⟩
theorem H_L_649 {Γ : jΓ} {b LL : Nat} {xs : Nat → Int32} (E : E_L Γ b LL xs) : jHd cd_L (jG Γ) qT (sg_L_649 LL xs) 649 := fun n L st K h ce sl => jwp_ok (cd := cd_L) (Γ := Γ) (Q := qT) okc_L n (sg_L_649 LL xs) 649 (ok_L_649 E) L st K h ce sl
theorem oo_L_668 {Γ : jΓ} {b LL : Nat} {xs : Nat → Int32} (E : E_L Γ b LL xs) : jSA Γ qT 668 (o_aload 2) 1 := by
  obtain ⟨E1, E2, ⟨nm, C⟩, S⟩ := E
  exact so_aload_n C rfl dL_law_668
theorem oo_L_669 {Γ : jΓ} {b LL : Nat} {xs : Nat → Int32} (E : E_L Γ b LL xs) : jSA Γ qT 669 (o_aload 0) 1 := by
  obtain ⟨E1, E2, ⟨nm, C⟩, S⟩ := E
  exact so_aload_n C rfl dL_law_669
theorem oo_L_670 {Γ : jΓ} {b LL : Nat} {xs : Nat → Int32} (E : E_L Γ b LL xs) : jSA Γ qT 670 (o_iload 3) 1 := by
  obtain ⟨E1, E2, ⟨nm, C⟩, S⟩ := E
  exact so_iload_n C rfl dL_law_670
theorem oo_L_671 {Γ : jΓ} {b LL : Nat} {xs : Nat → Int32} (E : E_L Γ b LL xs) : jSA Γ qT 671 (o_ic (1)) 1 := by
  obtain ⟨E1, E2, ⟨nm, C⟩, S⟩ := E
  exact so_iconst C rfl dL_law_671
theorem oo_L_672 {Γ : jΓ} {b LL : Nat} {xs : Nat → Int32} (E : E_L Γ b LL xs) : jSA Γ qT 672 (o_iadd) 1 := by
  obtain ⟨E1, E2, ⟨nm, C⟩, S⟩ := E
  exact so_iadd C dL_law_672
theorem oo_L_673 {Γ : jΓ} {b LL : Nat} {xs : Nat → Int32} (E : E_L Γ b LL xs) : jSA Γ qT 673 (o_sld LL xs) 1 := by
  obtain ⟨E1, E2, ⟨nm, C⟩, S⟩ := E
  exact so_sld C S dL_law_673
theorem oo_L_674 {Γ : jΓ} {b LL : Nat} {xs : Nat → Int32} (E : E_L Γ b LL xs) : jSA Γ qT 674 (o_aload 0) 1 := by
  obtain ⟨E1, E2, ⟨nm, C⟩, S⟩ := E
  exact so_aload_n C rfl dL_law_674
theorem oo_L_675 {Γ : jΓ} {b LL : Nat} {xs : Nat → Int32} (E : E_L Γ b LL xs) : jSA Γ qT 675 (o_iload 3) 1 := by
  obtain ⟨E1, E2, ⟨nm, C⟩, S⟩ := E
  exact so_iload_n C rfl dL_law_675
theorem oo_L_676 {Γ : jΓ} {b LL : Nat} {xs : Nat → Int32} (E : E_L Γ b LL xs) : jSA Γ qT 676 (o_ic (2)) 1 := by
  obtain ⟨E1, E2, ⟨nm, C⟩, S⟩ := E
  exact so_iconst C rfl dL_law_676
theorem oo_L_677 {Γ : jΓ} {b LL : Nat} {xs : Nat → Int32} (E : E_L Γ b LL xs) : jSA Γ qT 677 (o_iadd) 1 := by
  obtain ⟨E1, E2, ⟨nm, C⟩, S⟩ := E
  exact so_iadd C dL_law_677
theorem oo_L_678 {Γ : jΓ} {b LL : Nat} {xs : Nat → Int32} (E : E_L Γ b LL xs) : jSA Γ qT 678 (o_sld LL xs) 1 := by
  obtain ⟨E1, E2, ⟨nm, C⟩, S⟩ := E
  exact so_sld C S dL_law_678
theorem oo_L_679 {Γ : jΓ} {b LL : Nat} {xs : Nat → Int32} (E : E_L Γ b LL xs) : jSA Γ qT 679 (o_aload 0) 1 := by
  obtain ⟨E1, E2, ⟨nm, C⟩, S⟩ := E
  exact so_aload_n C rfl dL_law_679
theorem oo_L_680 {Γ : jΓ} {b LL : Nat} {xs : Nat → Int32} (E : E_L Γ b LL xs) : jSA Γ qT 680 (o_iload 3) 1 := by
  obtain ⟨E1, E2, ⟨nm, C⟩, S⟩ := E
  exact so_iload_n C rfl dL_law_680
theorem oo_L_681 {Γ : jΓ} {b LL : Nat} {xs : Nat → Int32} (E : E_L Γ b LL xs) : jSA Γ qT 681 (o_ic (3)) 1 := by
  obtain ⟨E1, E2, ⟨nm, C⟩, S⟩ := E
  exact so_iconst C rfl dL_law_681
theorem oo_L_682 {Γ : jΓ} {b LL : Nat} {xs : Nat → Int32} (E : E_L Γ b LL xs) : jSA Γ qT 682 (o_iadd) 1 := by
  obtain ⟨E1, E2, ⟨nm, C⟩, S⟩ := E
  exact so_iadd C dL_law_682
theorem oo_L_683 {Γ : jΓ} {b LL : Nat} {xs : Nat → Int32} (E : E_L Γ b LL xs) : jSA Γ qT 683 (o_sld LL xs) 1 := by
  obtain ⟨E1, E2, ⟨nm, C⟩, S⟩ := E
  exact so_sld C S dL_law_683
theorem oo_L_684 {Γ : jΓ} {b LL : Nat} {xs : Nat → Int32} (E : E_L Γ b LL xs) : jSA Γ qT 684 (o_callV 4 7 T_X7_like) 3 := by
  obtain ⟨E1, E2, ⟨nm, C⟩, S⟩ := E
  exact so_callV C (ci := 7) (by rw [E2]; rfl) gL_law_X7_like (by decide +kernel) rfl (by rw [E2]; exact m_X7_like _) (by decide) (by decide) dL_law_684
theorem oo_L_687 {Γ : jΓ} {b LL : Nat} {xs : Nat → Int32} (E : E_L Γ b LL xs) : jSA Γ qT 687 (o_iceq 949) 3 := by
  obtain ⟨E1, E2, ⟨nm, C⟩, S⟩ := E
  exact so_iceq C (by decide) dL_law_687
theorem oo_L_690 {Γ : jΓ} {b LL : Nat} {xs : Nat → Int32} (E : E_L Γ b LL xs) : jSA Γ qT 690 (o_ic (0)) 1 := by
  obtain ⟨E1, E2, ⟨nm, C⟩, S⟩ := E
  exact so_iconst C rfl dL_law_690
theorem ok_L_668 {Γ : jΓ} {b LL : Nat} {xs : Nat → Int32} (E : E_L Γ b LL xs) : jSS Γ qT 668 (sg_L_668 LL xs) := ⟨oo_L_668 E, oo_L_669 E, oo_L_670 E, oo_L_671 E, oo_L_672 E, oo_L_673 E, oo_L_674 E, oo_L_675 E, oo_L_676 E, oo_L_677 E, oo_L_678 E, oo_L_679 E, oo_L_680 E, oo_L_681 E, oo_L_682 E, oo_L_683 E, oo_L_684 E, oo_L_687 E, oo_L_690 E, trivial⟩
theorem H_L_668 {Γ : jΓ} {b LL : Nat} {xs : Nat → Int32} (E : E_L Γ b LL xs) : jHd cd_L (jG Γ) qT (sg_L_668 LL xs) 668 := fun n L st K h ce sl => jwp_ok (cd := cd_L) (Γ := Γ) (Q := qT) okc_L n (sg_L_668 LL xs) 668 (ok_L_668 E) L st K h ce sl
theorem oo_L_692 {Γ : jΓ} {b LL : Nat} {xs : Nat → Int32} (E : E_L Γ b LL xs) : jSA Γ qT 692 (o_aload 1) 1 := by
  obtain ⟨E1, E2, ⟨nm, C⟩, S⟩ := E
  exact so_aload_n C rfl dL_law_692
theorem oo_L_693 {Γ : jΓ} {b LL : Nat} {xs : Nat → Int32} (E : E_L Γ b LL xs) : jSA Γ qT 693 (o_aload 0) 1 := by
  obtain ⟨E1, E2, ⟨nm, C⟩, S⟩ := E
  exact so_aload_n C rfl dL_law_693
theorem oo_L_694 {Γ : jΓ} {b LL : Nat} {xs : Nat → Int32} (E : E_L Γ b LL xs) : jSA Γ qT 694 (o_iload 3) 1 := by
  obtain ⟨E1, E2, ⟨nm, C⟩, S⟩ := E
  exact so_iload_n C rfl dL_law_694
theorem oo_L_695 {Γ : jΓ} {b LL : Nat} {xs : Nat → Int32} (E : E_L Γ b LL xs) : jSA Γ qT 695 (o_ic (1)) 1 := by
  obtain ⟨E1, E2, ⟨nm, C⟩, S⟩ := E
  exact so_iconst C rfl dL_law_695
theorem oo_L_696 {Γ : jΓ} {b LL : Nat} {xs : Nat → Int32} (E : E_L Γ b LL xs) : jSA Γ qT 696 (o_iadd) 1 := by
  obtain ⟨E1, E2, ⟨nm, C⟩, S⟩ := E
  exact so_iadd C dL_law_696
theorem oo_L_697 {Γ : jΓ} {b LL : Nat} {xs : Nat → Int32} (E : E_L Γ b LL xs) : jSA Γ qT 697 (o_sld LL xs) 1 := by
  obtain ⟨E1, E2, ⟨nm, C⟩, S⟩ := E
  exact so_sld C S dL_law_697
theorem oo_L_698 {Γ : jΓ} {b LL : Nat} {xs : Nat → Int32} (E : E_L Γ b LL xs) : jSA Γ qT 698 (o_aload 0) 1 := by
  obtain ⟨E1, E2, ⟨nm, C⟩, S⟩ := E
  exact so_aload_n C rfl dL_law_698
theorem oo_L_699 {Γ : jΓ} {b LL : Nat} {xs : Nat → Int32} (E : E_L Γ b LL xs) : jSA Γ qT 699 (o_iload 3) 1 := by
  obtain ⟨E1, E2, ⟨nm, C⟩, S⟩ := E
  exact so_iload_n C rfl dL_law_699
theorem oo_L_700 {Γ : jΓ} {b LL : Nat} {xs : Nat → Int32} (E : E_L Γ b LL xs) : jSA Γ qT 700 (o_ic (2)) 1 := by
  obtain ⟨E1, E2, ⟨nm, C⟩, S⟩ := E
  exact so_iconst C rfl dL_law_700
theorem oo_L_701 {Γ : jΓ} {b LL : Nat} {xs : Nat → Int32} (E : E_L Γ b LL xs) : jSA Γ qT 701 (o_iadd) 1 := by
  obtain ⟨E1, E2, ⟨nm, C⟩, S⟩ := E
  exact so_iadd C dL_law_701
theorem oo_L_702 {Γ : jΓ} {b LL : Nat} {xs : Nat → Int32} (E : E_L Γ b LL xs) : jSA Γ qT 702 (o_sld LL xs) 1 := by
  obtain ⟨E1, E2, ⟨nm, C⟩, S⟩ := E
  exact so_sld C S dL_law_702
theorem oo_L_703 {Γ : jΓ} {b LL : Nat} {xs : Nat → Int32} (E : E_L Γ b LL xs) : jSA Γ qT 703 (o_aload 0) 1 := by
  obtain ⟨E1, E2, ⟨nm, C⟩, S⟩ := E
  exact so_aload_n C rfl dL_law_703
theorem oo_L_704 {Γ : jΓ} {b LL : Nat} {xs : Nat → Int32} (E : E_L Γ b LL xs) : jSA Γ qT 704 (o_iload 3) 1 := by
  obtain ⟨E1, E2, ⟨nm, C⟩, S⟩ := E
  exact so_iload_n C rfl dL_law_704
theorem oo_L_705 {Γ : jΓ} {b LL : Nat} {xs : Nat → Int32} (E : E_L Γ b LL xs) : jSA Γ qT 705 (o_ic (3)) 1 := by
  obtain ⟨E1, E2, ⟨nm, C⟩, S⟩ := E
  exact so_iconst C rfl dL_law_705
theorem oo_L_706 {Γ : jΓ} {b LL : Nat} {xs : Nat → Int32} (E : E_L Γ b LL xs) : jSA Γ qT 706 (o_iadd) 1 := by
  obtain ⟨E1, E2, ⟨nm, C⟩, S⟩ := E
  exact so_iadd C dL_law_706
theorem oo_L_707 {Γ : jΓ} {b LL : Nat} {xs : Nat → Int32} (E : E_L Γ b LL xs) : jSA Γ qT 707 (o_sld LL xs) 1 := by
  obtain ⟨E1, E2, ⟨nm, C⟩, S⟩ := E
  exact so_sld C S dL_law_707
theorem oo_L_708 {Γ : jΓ} {b LL : Nat} {xs : Nat → Int32} (E : E_L Γ b LL xs) : jSA Γ qT 708 (o_callV 4 6 T_X6_sheet) 3 := by
  obtain ⟨E1, E2, ⟨nm, C⟩, S⟩ := E
  exact so_callV C (ci := 6) (by rw [E2]; rfl) gL_law_X6_sheet (by decide +kernel) rfl (by rw [E2]; exact m_X6_sheet _) (by decide) (by decide) dL_law_708
theorem ok_L_692 {Γ : jΓ} {b LL : Nat} {xs : Nat → Int32} (E : E_L Γ b LL xs) : jSS Γ qT 692 (sg_L_692 LL xs) := ⟨oo_L_692 E, oo_L_693 E, oo_L_694 E, oo_L_695 E, oo_L_696 E, oo_L_697 E, oo_L_698 E, oo_L_699 E, oo_L_700 E, oo_L_701 E, oo_L_702 E, oo_L_703 E, oo_L_704 E, oo_L_705 E, oo_L_706 E, oo_L_707 E, oo_L_708 E, trivial⟩
theorem H_L_692 {Γ : jΓ} {b LL : Nat} {xs : Nat → Int32} (E : E_L Γ b LL xs) : jHd cd_L (jG Γ) qT (sg_L_692 LL xs) 692 := fun n L st K h ce sl => jwp_ok (cd := cd_L) (Γ := Γ) (Q := qT) okc_L n (sg_L_692 LL xs) 692 (ok_L_692 E) L st K h ce sl
theorem oo_L_711 {Γ : jΓ} {b LL : Nat} {xs : Nat → Int32} (E : E_L Γ b LL xs) : jSA Γ qT 711 (o_aload 2) 1 := by
  obtain ⟨E1, E2, ⟨nm, C⟩, S⟩ := E
  exact so_aload_n C rfl dL_law_711
theorem oo_L_712 {Γ : jΓ} {b LL : Nat} {xs : Nat → Int32} (E : E_L Γ b LL xs) : jSA Γ qT 712 (o_aload 0) 1 := by
  obtain ⟨E1, E2, ⟨nm, C⟩, S⟩ := E
  exact so_aload_n C rfl dL_law_712
theorem oo_L_713 {Γ : jΓ} {b LL : Nat} {xs : Nat → Int32} (E : E_L Γ b LL xs) : jSA Γ qT 713 (o_iload 3) 1 := by
  obtain ⟨E1, E2, ⟨nm, C⟩, S⟩ := E
  exact so_iload_n C rfl dL_law_713
theorem oo_L_714 {Γ : jΓ} {b LL : Nat} {xs : Nat → Int32} (E : E_L Γ b LL xs) : jSA Γ qT 714 (o_ic (1)) 1 := by
  obtain ⟨E1, E2, ⟨nm, C⟩, S⟩ := E
  exact so_iconst C rfl dL_law_714
theorem oo_L_715 {Γ : jΓ} {b LL : Nat} {xs : Nat → Int32} (E : E_L Γ b LL xs) : jSA Γ qT 715 (o_iadd) 1 := by
  obtain ⟨E1, E2, ⟨nm, C⟩, S⟩ := E
  exact so_iadd C dL_law_715
theorem oo_L_716 {Γ : jΓ} {b LL : Nat} {xs : Nat → Int32} (E : E_L Γ b LL xs) : jSA Γ qT 716 (o_sld LL xs) 1 := by
  obtain ⟨E1, E2, ⟨nm, C⟩, S⟩ := E
  exact so_sld C S dL_law_716
theorem oo_L_717 {Γ : jΓ} {b LL : Nat} {xs : Nat → Int32} (E : E_L Γ b LL xs) : jSA Γ qT 717 (o_aload 0) 1 := by
  obtain ⟨E1, E2, ⟨nm, C⟩, S⟩ := E
  exact so_aload_n C rfl dL_law_717
theorem oo_L_718 {Γ : jΓ} {b LL : Nat} {xs : Nat → Int32} (E : E_L Γ b LL xs) : jSA Γ qT 718 (o_iload 3) 1 := by
  obtain ⟨E1, E2, ⟨nm, C⟩, S⟩ := E
  exact so_iload_n C rfl dL_law_718
theorem oo_L_719 {Γ : jΓ} {b LL : Nat} {xs : Nat → Int32} (E : E_L Γ b LL xs) : jSA Γ qT 719 (o_ic (2)) 1 := by
  obtain ⟨E1, E2, ⟨nm, C⟩, S⟩ := E
  exact so_iconst C rfl dL_law_719
theorem oo_L_720 {Γ : jΓ} {b LL : Nat} {xs : Nat → Int32} (E : E_L Γ b LL xs) : jSA Γ qT 720 (o_iadd) 1 := by
  obtain ⟨E1, E2, ⟨nm, C⟩, S⟩ := E
  exact so_iadd C dL_law_720
theorem oo_L_721 {Γ : jΓ} {b LL : Nat} {xs : Nat → Int32} (E : E_L Γ b LL xs) : jSA Γ qT 721 (o_sld LL xs) 1 := by
  obtain ⟨E1, E2, ⟨nm, C⟩, S⟩ := E
  exact so_sld C S dL_law_721
theorem oo_L_722 {Γ : jΓ} {b LL : Nat} {xs : Nat → Int32} (E : E_L Γ b LL xs) : jSA Γ qT 722 (o_aload 0) 1 := by
  obtain ⟨E1, E2, ⟨nm, C⟩, S⟩ := E
  exact so_aload_n C rfl dL_law_722
theorem oo_L_723 {Γ : jΓ} {b LL : Nat} {xs : Nat → Int32} (E : E_L Γ b LL xs) : jSA Γ qT 723 (o_iload 3) 1 := by
  obtain ⟨E1, E2, ⟨nm, C⟩, S⟩ := E
  exact so_iload_n C rfl dL_law_723
theorem oo_L_724 {Γ : jΓ} {b LL : Nat} {xs : Nat → Int32} (E : E_L Γ b LL xs) : jSA Γ qT 724 (o_ic (3)) 1 := by
  obtain ⟨E1, E2, ⟨nm, C⟩, S⟩ := E
  exact so_iconst C rfl dL_law_724
theorem oo_L_725 {Γ : jΓ} {b LL : Nat} {xs : Nat → Int32} (E : E_L Γ b LL xs) : jSA Γ qT 725 (o_iadd) 1 := by
  obtain ⟨E1, E2, ⟨nm, C⟩, S⟩ := E
  exact so_iadd C dL_law_725
theorem oo_L_726 {Γ : jΓ} {b LL : Nat} {xs : Nat → Int32} (E : E_L Γ b LL xs) : jSA Γ qT 726 (o_sld LL xs) 1 := by
  obtain ⟨E1, E2, ⟨nm, C⟩, S⟩ := E
  exact so_sld C S dL_law_726
theorem oo_L_727 {Γ : jΓ} {b LL : Nat} {xs : Nat → Int32} (E : E_L Γ b LL xs) : jSA Γ qT 727 (o_callV 4 7 T_X7_sheet) 3 := by
  obtain ⟨E1, E2, ⟨nm, C⟩, S⟩ := E
  exact so_callV C (ci := 7) (by rw [E2]; rfl) gL_law_X7_sheet (by decide +kernel) rfl (by rw [E2]; exact m_X7_sheet _) (by decide) (by decide) dL_law_727
theorem oo_L_730 {Γ : jΓ} {b LL : Nat} {xs : Nat → Int32} (E : E_L Γ b LL xs) : jSA Γ qT 730 (o_iceq 949) 3 := by
  obtain ⟨E1, E2, ⟨nm, C⟩, S⟩ := E
  exact so_iceq C (by decide) dL_law_730
theorem oo_L_733 {Γ : jΓ} {b LL : Nat} {xs : Nat → Int32} (E : E_L Γ b LL xs) : jSA Γ qT 733 (o_ic (0)) 1 := by
  obtain ⟨E1, E2, ⟨nm, C⟩, S⟩ := E
  exact so_iconst C rfl dL_law_733
theorem ok_L_711 {Γ : jΓ} {b LL : Nat} {xs : Nat → Int32} (E : E_L Γ b LL xs) : jSS Γ qT 711 (sg_L_711 LL xs) := ⟨oo_L_711 E, oo_L_712 E, oo_L_713 E, oo_L_714 E, oo_L_715 E, oo_L_716 E, oo_L_717 E, oo_L_718 E, oo_L_719 E, oo_L_720 E, oo_L_721 E, oo_L_722 E, oo_L_723 E, oo_L_724 E, oo_L_725 E, oo_L_726 E, oo_L_727 E, oo_L_730 E, oo_L_733 E, trivial⟩
theorem H_L_711 {Γ : jΓ} {b LL : Nat} {xs : Nat → Int32} (E : E_L Γ b LL xs) : jHd cd_L (jG Γ) qT (sg_L_711 LL xs) 711 := fun n L st K h ce sl => jwp_ok (cd := cd_L) (Γ := Γ) (Q := qT) okc_L n (sg_L_711 LL xs) 711 (ok_L_711 E) L st K h ce sl
theorem oo_L_735 {Γ : jΓ} {b LL : Nat} {xs : Nat → Int32} (E : E_L Γ b LL xs) : jSA Γ qT 735 (o_aload 1) 1 := by
  obtain ⟨E1, E2, ⟨nm, C⟩, S⟩ := E
  exact so_aload_n C rfl dL_law_735
theorem oo_L_736 {Γ : jΓ} {b LL : Nat} {xs : Nat → Int32} (E : E_L Γ b LL xs) : jSA Γ qT 736 (o_aload 0) 1 := by
  obtain ⟨E1, E2, ⟨nm, C⟩, S⟩ := E
  exact so_aload_n C rfl dL_law_736
theorem oo_L_737 {Γ : jΓ} {b LL : Nat} {xs : Nat → Int32} (E : E_L Γ b LL xs) : jSA Γ qT 737 (o_iload 3) 1 := by
  obtain ⟨E1, E2, ⟨nm, C⟩, S⟩ := E
  exact so_iload_n C rfl dL_law_737
theorem oo_L_738 {Γ : jΓ} {b LL : Nat} {xs : Nat → Int32} (E : E_L Γ b LL xs) : jSA Γ qT 738 (o_ic (1)) 1 := by
  obtain ⟨E1, E2, ⟨nm, C⟩, S⟩ := E
  exact so_iconst C rfl dL_law_738
theorem oo_L_739 {Γ : jΓ} {b LL : Nat} {xs : Nat → Int32} (E : E_L Γ b LL xs) : jSA Γ qT 739 (o_iadd) 1 := by
  obtain ⟨E1, E2, ⟨nm, C⟩, S⟩ := E
  exact so_iadd C dL_law_739
theorem oo_L_740 {Γ : jΓ} {b LL : Nat} {xs : Nat → Int32} (E : E_L Γ b LL xs) : jSA Γ qT 740 (o_sld LL xs) 1 := by
  obtain ⟨E1, E2, ⟨nm, C⟩, S⟩ := E
  exact so_sld C S dL_law_740
theorem oo_L_741 {Γ : jΓ} {b LL : Nat} {xs : Nat → Int32} (E : E_L Γ b LL xs) : jSA Γ qT 741 (o_callV 2 6 T_X6_drop) 3 := by
  obtain ⟨E1, E2, ⟨nm, C⟩, S⟩ := E
  exact so_callV C (ci := 6) (by rw [E2]; rfl) gL_law_X6_drop (by decide +kernel) rfl (by rw [E2]; exact m_X6_drop _) (by decide) (by decide) dL_law_741
theorem ok_L_735 {Γ : jΓ} {b LL : Nat} {xs : Nat → Int32} (E : E_L Γ b LL xs) : jSS Γ qT 735 (sg_L_735 LL xs) := ⟨oo_L_735 E, oo_L_736 E, oo_L_737 E, oo_L_738 E, oo_L_739 E, oo_L_740 E, oo_L_741 E, trivial⟩
theorem H_L_735 {Γ : jΓ} {b LL : Nat} {xs : Nat → Int32} (E : E_L Γ b LL xs) : jHd cd_L (jG Γ) qT (sg_L_735 LL xs) 735 := fun n L st K h ce sl => jwp_ok (cd := cd_L) (Γ := Γ) (Q := qT) okc_L n (sg_L_735 LL xs) 735 (ok_L_735 E) L st K h ce sl
theorem oo_L_744 {Γ : jΓ} {b LL : Nat} {xs : Nat → Int32} (E : E_L Γ b LL xs) : jSA Γ qT 744 (o_aload 2) 1 := by
  obtain ⟨E1, E2, ⟨nm, C⟩, S⟩ := E
  exact so_aload_n C rfl dL_law_744
theorem oo_L_745 {Γ : jΓ} {b LL : Nat} {xs : Nat → Int32} (E : E_L Γ b LL xs) : jSA Γ qT 745 (o_aload 0) 1 := by
  obtain ⟨E1, E2, ⟨nm, C⟩, S⟩ := E
  exact so_aload_n C rfl dL_law_745
theorem oo_L_746 {Γ : jΓ} {b LL : Nat} {xs : Nat → Int32} (E : E_L Γ b LL xs) : jSA Γ qT 746 (o_iload 3) 1 := by
  obtain ⟨E1, E2, ⟨nm, C⟩, S⟩ := E
  exact so_iload_n C rfl dL_law_746
theorem oo_L_747 {Γ : jΓ} {b LL : Nat} {xs : Nat → Int32} (E : E_L Γ b LL xs) : jSA Γ qT 747 (o_ic (1)) 1 := by
  obtain ⟨E1, E2, ⟨nm, C⟩, S⟩ := E
  exact so_iconst C rfl dL_law_747
theorem oo_L_748 {Γ : jΓ} {b LL : Nat} {xs : Nat → Int32} (E : E_L Γ b LL xs) : jSA Γ qT 748 (o_iadd) 1 := by
  obtain ⟨E1, E2, ⟨nm, C⟩, S⟩ := E
  exact so_iadd C dL_law_748
theorem oo_L_749 {Γ : jΓ} {b LL : Nat} {xs : Nat → Int32} (E : E_L Γ b LL xs) : jSA Γ qT 749 (o_sld LL xs) 1 := by
  obtain ⟨E1, E2, ⟨nm, C⟩, S⟩ := E
  exact so_sld C S dL_law_749
theorem oo_L_750 {Γ : jΓ} {b LL : Nat} {xs : Nat → Int32} (E : E_L Γ b LL xs) : jSA Γ qT 750 (o_callV 2 7 T_X7_drop) 3 := by
  obtain ⟨E1, E2, ⟨nm, C⟩, S⟩ := E
  exact so_callV C (ci := 7) (by rw [E2]; rfl) gL_law_X7_drop (by decide +kernel) rfl (by rw [E2]; exact m_X7_drop _) (by decide) (by decide) dL_law_750
theorem oo_L_753 {Γ : jΓ} {b LL : Nat} {xs : Nat → Int32} (E : E_L Γ b LL xs) : jSA Γ qT 753 (o_iceq 949) 3 := by
  obtain ⟨E1, E2, ⟨nm, C⟩, S⟩ := E
  exact so_iceq C (by decide) dL_law_753
theorem oo_L_756 {Γ : jΓ} {b LL : Nat} {xs : Nat → Int32} (E : E_L Γ b LL xs) : jSA Γ qT 756 (o_ic (0)) 1 := by
  obtain ⟨E1, E2, ⟨nm, C⟩, S⟩ := E
  exact so_iconst C rfl dL_law_756
theorem ok_L_744 {Γ : jΓ} {b LL : Nat} {xs : Nat → Int32} (E : E_L Γ b LL xs) : jSS Γ qT 744 (sg_L_744 LL xs) := ⟨oo_L_744 E, oo_L_745 E, oo_L_746 E, oo_L_747 E, oo_L_748 E, oo_L_749 E, oo_L_750 E, oo_L_753 E, oo_L_756 E, trivial⟩
theorem H_L_744 {Γ : jΓ} {b LL : Nat} {xs : Nat → Int32} (E : E_L Γ b LL xs) : jHd cd_L (jG Γ) qT (sg_L_744 LL xs) 744 := fun n L st K h ce sl => jwp_ok (cd := cd_L) (Γ := Γ) (Q := qT) okc_L n (sg_L_744 LL xs) 744 (ok_L_744 E) L st K h ce sl
theorem oo_L_758 {Γ : jΓ} {b LL : Nat} {xs : Nat → Int32} (E : E_L Γ b LL xs) : jSA Γ qT 758 (o_aload 1) 1 := by
  obtain ⟨E1, E2, ⟨nm, C⟩, S⟩ := E
  exact so_aload_n C rfl dL_law_758
theorem oo_L_759 {Γ : jΓ} {b LL : Nat} {xs : Nat → Int32} (E : E_L Γ b LL xs) : jSA Γ qT 759 (o_aload 0) 1 := by
  obtain ⟨E1, E2, ⟨nm, C⟩, S⟩ := E
  exact so_aload_n C rfl dL_law_759
theorem oo_L_760 {Γ : jΓ} {b LL : Nat} {xs : Nat → Int32} (E : E_L Γ b LL xs) : jSA Γ qT 760 (o_iload 3) 1 := by
  obtain ⟨E1, E2, ⟨nm, C⟩, S⟩ := E
  exact so_iload_n C rfl dL_law_760
theorem oo_L_761 {Γ : jΓ} {b LL : Nat} {xs : Nat → Int32} (E : E_L Γ b LL xs) : jSA Γ qT 761 (o_ic (1)) 1 := by
  obtain ⟨E1, E2, ⟨nm, C⟩, S⟩ := E
  exact so_iconst C rfl dL_law_761
theorem oo_L_762 {Γ : jΓ} {b LL : Nat} {xs : Nat → Int32} (E : E_L Γ b LL xs) : jSA Γ qT 762 (o_iadd) 1 := by
  obtain ⟨E1, E2, ⟨nm, C⟩, S⟩ := E
  exact so_iadd C dL_law_762
theorem oo_L_763 {Γ : jΓ} {b LL : Nat} {xs : Nat → Int32} (E : E_L Γ b LL xs) : jSA Γ qT 763 (o_sld LL xs) 1 := by
  obtain ⟨E1, E2, ⟨nm, C⟩, S⟩ := E
  exact so_sld C S dL_law_763
theorem oo_L_764 {Γ : jΓ} {b LL : Nat} {xs : Nat → Int32} (E : E_L Γ b LL xs) : jSA Γ qT 764 (o_aload 0) 1 := by
  obtain ⟨E1, E2, ⟨nm, C⟩, S⟩ := E
  exact so_aload_n C rfl dL_law_764
theorem oo_L_765 {Γ : jΓ} {b LL : Nat} {xs : Nat → Int32} (E : E_L Γ b LL xs) : jSA Γ qT 765 (o_iload 3) 1 := by
  obtain ⟨E1, E2, ⟨nm, C⟩, S⟩ := E
  exact so_iload_n C rfl dL_law_765
theorem oo_L_766 {Γ : jΓ} {b LL : Nat} {xs : Nat → Int32} (E : E_L Γ b LL xs) : jSA Γ qT 766 (o_ic (2)) 1 := by
  obtain ⟨E1, E2, ⟨nm, C⟩, S⟩ := E
  exact so_iconst C rfl dL_law_766
theorem oo_L_767 {Γ : jΓ} {b LL : Nat} {xs : Nat → Int32} (E : E_L Γ b LL xs) : jSA Γ qT 767 (o_iadd) 1 := by
  obtain ⟨E1, E2, ⟨nm, C⟩, S⟩ := E
  exact so_iadd C dL_law_767
theorem oo_L_768 {Γ : jΓ} {b LL : Nat} {xs : Nat → Int32} (E : E_L Γ b LL xs) : jSA Γ qT 768 (o_sld LL xs) 1 := by
  obtain ⟨E1, E2, ⟨nm, C⟩, S⟩ := E
  exact so_sld C S dL_law_768
theorem oo_L_769 {Γ : jΓ} {b LL : Nat} {xs : Nat → Int32} (E : E_L Γ b LL xs) : jSA Γ qT 769 (o_aload 0) 1 := by
  obtain ⟨E1, E2, ⟨nm, C⟩, S⟩ := E
  exact so_aload_n C rfl dL_law_769
theorem oo_L_770 {Γ : jΓ} {b LL : Nat} {xs : Nat → Int32} (E : E_L Γ b LL xs) : jSA Γ qT 770 (o_iload 3) 1 := by
  obtain ⟨E1, E2, ⟨nm, C⟩, S⟩ := E
  exact so_iload_n C rfl dL_law_770
theorem oo_L_771 {Γ : jΓ} {b LL : Nat} {xs : Nat → Int32} (E : E_L Γ b LL xs) : jSA Γ qT 771 (o_ic (3)) 1 := by
  obtain ⟨E1, E2, ⟨nm, C⟩, S⟩ := E
  exact so_iconst C rfl dL_law_771
theorem oo_L_772 {Γ : jΓ} {b LL : Nat} {xs : Nat → Int32} (E : E_L Γ b LL xs) : jSA Γ qT 772 (o_iadd) 1 := by
  obtain ⟨E1, E2, ⟨nm, C⟩, S⟩ := E
  exact so_iadd C dL_law_772
theorem oo_L_773 {Γ : jΓ} {b LL : Nat} {xs : Nat → Int32} (E : E_L Γ b LL xs) : jSA Γ qT 773 (o_sld LL xs) 1 := by
  obtain ⟨E1, E2, ⟨nm, C⟩, S⟩ := E
  exact so_sld C S dL_law_773
theorem oo_L_774 {Γ : jΓ} {b LL : Nat} {xs : Nat → Int32} (E : E_L Γ b LL xs) : jSA Γ qT 774 (o_aload 0) 1 := by
  obtain ⟨E1, E2, ⟨nm, C⟩, S⟩ := E
  exact so_aload_n C rfl dL_law_774
theorem oo_L_775 {Γ : jΓ} {b LL : Nat} {xs : Nat → Int32} (E : E_L Γ b LL xs) : jSA Γ qT 775 (o_iload 3) 1 := by
  obtain ⟨E1, E2, ⟨nm, C⟩, S⟩ := E
  exact so_iload_n C rfl dL_law_775
theorem oo_L_776 {Γ : jΓ} {b LL : Nat} {xs : Nat → Int32} (E : E_L Γ b LL xs) : jSA Γ qT 776 (o_ic (4)) 1 := by
  obtain ⟨E1, E2, ⟨nm, C⟩, S⟩ := E
  exact so_iconst C rfl dL_law_776
theorem oo_L_777 {Γ : jΓ} {b LL : Nat} {xs : Nat → Int32} (E : E_L Γ b LL xs) : jSA Γ qT 777 (o_iadd) 1 := by
  obtain ⟨E1, E2, ⟨nm, C⟩, S⟩ := E
  exact so_iadd C dL_law_777
theorem oo_L_778 {Γ : jΓ} {b LL : Nat} {xs : Nat → Int32} (E : E_L Γ b LL xs) : jSA Γ qT 778 (o_sld LL xs) 1 := by
  obtain ⟨E1, E2, ⟨nm, C⟩, S⟩ := E
  exact so_sld C S dL_law_778
theorem oo_L_779 {Γ : jΓ} {b LL : Nat} {xs : Nat → Int32} (E : E_L Γ b LL xs) : jSA Γ qT 779 (o_callV 5 6 T_X6_item) 3 := by
  obtain ⟨E1, E2, ⟨nm, C⟩, S⟩ := E
  exact so_callV C (ci := 6) (by rw [E2]; rfl) gL_law_X6_item (by decide +kernel) rfl (by rw [E2]; exact m_X6_item _) (by decide) (by decide) dL_law_779
theorem ok_L_758 {Γ : jΓ} {b LL : Nat} {xs : Nat → Int32} (E : E_L Γ b LL xs) : jSS Γ qT 758 (sg_L_758 LL xs) := ⟨oo_L_758 E, oo_L_759 E, oo_L_760 E, oo_L_761 E, oo_L_762 E, oo_L_763 E, oo_L_764 E, oo_L_765 E, oo_L_766 E, oo_L_767 E, oo_L_768 E, oo_L_769 E, oo_L_770 E, oo_L_771 E, oo_L_772 E, oo_L_773 E, oo_L_774 E, oo_L_775 E, oo_L_776 E, oo_L_777 E, oo_L_778 E, oo_L_779 E, trivial⟩
theorem H_L_758 {Γ : jΓ} {b LL : Nat} {xs : Nat → Int32} (E : E_L Γ b LL xs) : jHd cd_L (jG Γ) qT (sg_L_758 LL xs) 758 := fun n L st K h ce sl => jwp_ok (cd := cd_L) (Γ := Γ) (Q := qT) okc_L n (sg_L_758 LL xs) 758 (ok_L_758 E) L st K h ce sl
theorem oo_L_782 {Γ : jΓ} {b LL : Nat} {xs : Nat → Int32} (E : E_L Γ b LL xs) : jSA Γ qT 782 (o_aload 2) 1 := by
  obtain ⟨E1, E2, ⟨nm, C⟩, S⟩ := E
  exact so_aload_n C rfl dL_law_782
theorem oo_L_783 {Γ : jΓ} {b LL : Nat} {xs : Nat → Int32} (E : E_L Γ b LL xs) : jSA Γ qT 783 (o_aload 0) 1 := by
  obtain ⟨E1, E2, ⟨nm, C⟩, S⟩ := E
  exact so_aload_n C rfl dL_law_783
theorem oo_L_784 {Γ : jΓ} {b LL : Nat} {xs : Nat → Int32} (E : E_L Γ b LL xs) : jSA Γ qT 784 (o_iload 3) 1 := by
  obtain ⟨E1, E2, ⟨nm, C⟩, S⟩ := E
  exact so_iload_n C rfl dL_law_784
theorem oo_L_785 {Γ : jΓ} {b LL : Nat} {xs : Nat → Int32} (E : E_L Γ b LL xs) : jSA Γ qT 785 (o_ic (1)) 1 := by
  obtain ⟨E1, E2, ⟨nm, C⟩, S⟩ := E
  exact so_iconst C rfl dL_law_785
theorem oo_L_786 {Γ : jΓ} {b LL : Nat} {xs : Nat → Int32} (E : E_L Γ b LL xs) : jSA Γ qT 786 (o_iadd) 1 := by
  obtain ⟨E1, E2, ⟨nm, C⟩, S⟩ := E
  exact so_iadd C dL_law_786
theorem oo_L_787 {Γ : jΓ} {b LL : Nat} {xs : Nat → Int32} (E : E_L Γ b LL xs) : jSA Γ qT 787 (o_sld LL xs) 1 := by
  obtain ⟨E1, E2, ⟨nm, C⟩, S⟩ := E
  exact so_sld C S dL_law_787
theorem oo_L_788 {Γ : jΓ} {b LL : Nat} {xs : Nat → Int32} (E : E_L Γ b LL xs) : jSA Γ qT 788 (o_aload 0) 1 := by
  obtain ⟨E1, E2, ⟨nm, C⟩, S⟩ := E
  exact so_aload_n C rfl dL_law_788
theorem oo_L_789 {Γ : jΓ} {b LL : Nat} {xs : Nat → Int32} (E : E_L Γ b LL xs) : jSA Γ qT 789 (o_iload 3) 1 := by
  obtain ⟨E1, E2, ⟨nm, C⟩, S⟩ := E
  exact so_iload_n C rfl dL_law_789
theorem oo_L_790 {Γ : jΓ} {b LL : Nat} {xs : Nat → Int32} (E : E_L Γ b LL xs) : jSA Γ qT 790 (o_ic (2)) 1 := by
  obtain ⟨E1, E2, ⟨nm, C⟩, S⟩ := E
  exact so_iconst C rfl dL_law_790
theorem oo_L_791 {Γ : jΓ} {b LL : Nat} {xs : Nat → Int32} (E : E_L Γ b LL xs) : jSA Γ qT 791 (o_iadd) 1 := by
  obtain ⟨E1, E2, ⟨nm, C⟩, S⟩ := E
  exact so_iadd C dL_law_791
theorem oo_L_792 {Γ : jΓ} {b LL : Nat} {xs : Nat → Int32} (E : E_L Γ b LL xs) : jSA Γ qT 792 (o_sld LL xs) 1 := by
  obtain ⟨E1, E2, ⟨nm, C⟩, S⟩ := E
  exact so_sld C S dL_law_792
theorem oo_L_793 {Γ : jΓ} {b LL : Nat} {xs : Nat → Int32} (E : E_L Γ b LL xs) : jSA Γ qT 793 (o_aload 0) 1 := by
  obtain ⟨E1, E2, ⟨nm, C⟩, S⟩ := E
  exact so_aload_n C rfl dL_law_793
theorem oo_L_794 {Γ : jΓ} {b LL : Nat} {xs : Nat → Int32} (E : E_L Γ b LL xs) : jSA Γ qT 794 (o_iload 3) 1 := by
  obtain ⟨E1, E2, ⟨nm, C⟩, S⟩ := E
  exact so_iload_n C rfl dL_law_794
theorem oo_L_795 {Γ : jΓ} {b LL : Nat} {xs : Nat → Int32} (E : E_L Γ b LL xs) : jSA Γ qT 795 (o_ic (3)) 1 := by
  obtain ⟨E1, E2, ⟨nm, C⟩, S⟩ := E
  exact so_iconst C rfl dL_law_795
theorem oo_L_796 {Γ : jΓ} {b LL : Nat} {xs : Nat → Int32} (E : E_L Γ b LL xs) : jSA Γ qT 796 (o_iadd) 1 := by
  obtain ⟨E1, E2, ⟨nm, C⟩, S⟩ := E
  exact so_iadd C dL_law_796
theorem oo_L_797 {Γ : jΓ} {b LL : Nat} {xs : Nat → Int32} (E : E_L Γ b LL xs) : jSA Γ qT 797 (o_sld LL xs) 1 := by
  obtain ⟨E1, E2, ⟨nm, C⟩, S⟩ := E
  exact so_sld C S dL_law_797
theorem oo_L_798 {Γ : jΓ} {b LL : Nat} {xs : Nat → Int32} (E : E_L Γ b LL xs) : jSA Γ qT 798 (o_aload 0) 1 := by
  obtain ⟨E1, E2, ⟨nm, C⟩, S⟩ := E
  exact so_aload_n C rfl dL_law_798
theorem oo_L_799 {Γ : jΓ} {b LL : Nat} {xs : Nat → Int32} (E : E_L Γ b LL xs) : jSA Γ qT 799 (o_iload 3) 1 := by
  obtain ⟨E1, E2, ⟨nm, C⟩, S⟩ := E
  exact so_iload_n C rfl dL_law_799
theorem oo_L_800 {Γ : jΓ} {b LL : Nat} {xs : Nat → Int32} (E : E_L Γ b LL xs) : jSA Γ qT 800 (o_ic (4)) 1 := by
  obtain ⟨E1, E2, ⟨nm, C⟩, S⟩ := E
  exact so_iconst C rfl dL_law_800
theorem oo_L_801 {Γ : jΓ} {b LL : Nat} {xs : Nat → Int32} (E : E_L Γ b LL xs) : jSA Γ qT 801 (o_iadd) 1 := by
  obtain ⟨E1, E2, ⟨nm, C⟩, S⟩ := E
  exact so_iadd C dL_law_801
theorem oo_L_802 {Γ : jΓ} {b LL : Nat} {xs : Nat → Int32} (E : E_L Γ b LL xs) : jSA Γ qT 802 (o_sld LL xs) 1 := by
  obtain ⟨E1, E2, ⟨nm, C⟩, S⟩ := E
  exact so_sld C S dL_law_802
theorem oo_L_803 {Γ : jΓ} {b LL : Nat} {xs : Nat → Int32} (E : E_L Γ b LL xs) : jSA Γ qT 803 (o_callV 5 7 T_X7_item) 3 := by
  obtain ⟨E1, E2, ⟨nm, C⟩, S⟩ := E
  exact so_callV C (ci := 7) (by rw [E2]; rfl) gL_law_X7_item (by decide +kernel) rfl (by rw [E2]; exact m_X7_item _) (by decide) (by decide) dL_law_803
theorem oo_L_806 {Γ : jΓ} {b LL : Nat} {xs : Nat → Int32} (E : E_L Γ b LL xs) : jSA Γ qT 806 (o_iceq 949) 3 := by
  obtain ⟨E1, E2, ⟨nm, C⟩, S⟩ := E
  exact so_iceq C (by decide) dL_law_806
theorem oo_L_809 {Γ : jΓ} {b LL : Nat} {xs : Nat → Int32} (E : E_L Γ b LL xs) : jSA Γ qT 809 (o_ic (0)) 1 := by
  obtain ⟨E1, E2, ⟨nm, C⟩, S⟩ := E
  exact so_iconst C rfl dL_law_809
theorem ok_L_782 {Γ : jΓ} {b LL : Nat} {xs : Nat → Int32} (E : E_L Γ b LL xs) : jSS Γ qT 782 (sg_L_782 LL xs) := ⟨oo_L_782 E, oo_L_783 E, oo_L_784 E, oo_L_785 E, oo_L_786 E, oo_L_787 E, oo_L_788 E, oo_L_789 E, oo_L_790 E, oo_L_791 E, oo_L_792 E, oo_L_793 E, oo_L_794 E, oo_L_795 E, oo_L_796 E, oo_L_797 E, oo_L_798 E, oo_L_799 E, oo_L_800 E, oo_L_801 E, oo_L_802 E, oo_L_803 E, oo_L_806 E, oo_L_809 E, trivial⟩
theorem H_L_782 {Γ : jΓ} {b LL : Nat} {xs : Nat → Int32} (E : E_L Γ b LL xs) : jHd cd_L (jG Γ) qT (sg_L_782 LL xs) 782 := fun n L st K h ce sl => jwp_ok (cd := cd_L) (Γ := Γ) (Q := qT) okc_L n (sg_L_782 LL xs) 782 (ok_L_782 E) L st K h ce sl
theorem oo_L_811 {Γ : jΓ} {b LL : Nat} {xs : Nat → Int32} (E : E_L Γ b LL xs) : jSA Γ qT 811 (o_aload 1) 1 := by
  obtain ⟨E1, E2, ⟨nm, C⟩, S⟩ := E
  exact so_aload_n C rfl dL_law_811
theorem oo_L_812 {Γ : jΓ} {b LL : Nat} {xs : Nat → Int32} (E : E_L Γ b LL xs) : jSA Γ qT 812 (o_aload 0) 1 := by
  obtain ⟨E1, E2, ⟨nm, C⟩, S⟩ := E
  exact so_aload_n C rfl dL_law_812
theorem oo_L_813 {Γ : jΓ} {b LL : Nat} {xs : Nat → Int32} (E : E_L Γ b LL xs) : jSA Γ qT 813 (o_iload 3) 1 := by
  obtain ⟨E1, E2, ⟨nm, C⟩, S⟩ := E
  exact so_iload_n C rfl dL_law_813
theorem oo_L_814 {Γ : jΓ} {b LL : Nat} {xs : Nat → Int32} (E : E_L Γ b LL xs) : jSA Γ qT 814 (o_ic (1)) 1 := by
  obtain ⟨E1, E2, ⟨nm, C⟩, S⟩ := E
  exact so_iconst C rfl dL_law_814
theorem oo_L_815 {Γ : jΓ} {b LL : Nat} {xs : Nat → Int32} (E : E_L Γ b LL xs) : jSA Γ qT 815 (o_iadd) 1 := by
  obtain ⟨E1, E2, ⟨nm, C⟩, S⟩ := E
  exact so_iadd C dL_law_815
theorem oo_L_816 {Γ : jΓ} {b LL : Nat} {xs : Nat → Int32} (E : E_L Γ b LL xs) : jSA Γ qT 816 (o_sld LL xs) 1 := by
  obtain ⟨E1, E2, ⟨nm, C⟩, S⟩ := E
  exact so_sld C S dL_law_816
theorem oo_L_817 {Γ : jΓ} {b LL : Nat} {xs : Nat → Int32} (E : E_L Γ b LL xs) : jSA Γ qT 817 (o_aload 0) 1 := by
  obtain ⟨E1, E2, ⟨nm, C⟩, S⟩ := E
  exact so_aload_n C rfl dL_law_817
theorem oo_L_818 {Γ : jΓ} {b LL : Nat} {xs : Nat → Int32} (E : E_L Γ b LL xs) : jSA Γ qT 818 (o_iload 3) 1 := by
  obtain ⟨E1, E2, ⟨nm, C⟩, S⟩ := E
  exact so_iload_n C rfl dL_law_818
theorem oo_L_819 {Γ : jΓ} {b LL : Nat} {xs : Nat → Int32} (E : E_L Γ b LL xs) : jSA Γ qT 819 (o_ic (2)) 1 := by
  obtain ⟨E1, E2, ⟨nm, C⟩, S⟩ := E
  exact so_iconst C rfl dL_law_819
theorem oo_L_820 {Γ : jΓ} {b LL : Nat} {xs : Nat → Int32} (E : E_L Γ b LL xs) : jSA Γ qT 820 (o_iadd) 1 := by
  obtain ⟨E1, E2, ⟨nm, C⟩, S⟩ := E
  exact so_iadd C dL_law_820
theorem oo_L_821 {Γ : jΓ} {b LL : Nat} {xs : Nat → Int32} (E : E_L Γ b LL xs) : jSA Γ qT 821 (o_sld LL xs) 1 := by
  obtain ⟨E1, E2, ⟨nm, C⟩, S⟩ := E
  exact so_sld C S dL_law_821
theorem oo_L_822 {Γ : jΓ} {b LL : Nat} {xs : Nat → Int32} (E : E_L Γ b LL xs) : jSA Γ qT 822 (o_aload 0) 1 := by
  obtain ⟨E1, E2, ⟨nm, C⟩, S⟩ := E
  exact so_aload_n C rfl dL_law_822
theorem oo_L_823 {Γ : jΓ} {b LL : Nat} {xs : Nat → Int32} (E : E_L Γ b LL xs) : jSA Γ qT 823 (o_iload 3) 1 := by
  obtain ⟨E1, E2, ⟨nm, C⟩, S⟩ := E
  exact so_iload_n C rfl dL_law_823
theorem oo_L_824 {Γ : jΓ} {b LL : Nat} {xs : Nat → Int32} (E : E_L Γ b LL xs) : jSA Γ qT 824 (o_ic (3)) 1 := by
  obtain ⟨E1, E2, ⟨nm, C⟩, S⟩ := E
  exact so_iconst C rfl dL_law_824
theorem oo_L_825 {Γ : jΓ} {b LL : Nat} {xs : Nat → Int32} (E : E_L Γ b LL xs) : jSA Γ qT 825 (o_iadd) 1 := by
  obtain ⟨E1, E2, ⟨nm, C⟩, S⟩ := E
  exact so_iadd C dL_law_825
theorem oo_L_826 {Γ : jΓ} {b LL : Nat} {xs : Nat → Int32} (E : E_L Γ b LL xs) : jSA Γ qT 826 (o_sld LL xs) 1 := by
  obtain ⟨E1, E2, ⟨nm, C⟩, S⟩ := E
  exact so_sld C S dL_law_826
theorem oo_L_827 {Γ : jΓ} {b LL : Nat} {xs : Nat → Int32} (E : E_L Γ b LL xs) : jSA Γ qT 827 (o_aload 0) 1 := by
  obtain ⟨E1, E2, ⟨nm, C⟩, S⟩ := E
  exact so_aload_n C rfl dL_law_827
theorem oo_L_828 {Γ : jΓ} {b LL : Nat} {xs : Nat → Int32} (E : E_L Γ b LL xs) : jSA Γ qT 828 (o_iload 3) 1 := by
  obtain ⟨E1, E2, ⟨nm, C⟩, S⟩ := E
  exact so_iload_n C rfl dL_law_828
theorem oo_L_829 {Γ : jΓ} {b LL : Nat} {xs : Nat → Int32} (E : E_L Γ b LL xs) : jSA Γ qT 829 (o_ic (4)) 1 := by
  obtain ⟨E1, E2, ⟨nm, C⟩, S⟩ := E
  exact so_iconst C rfl dL_law_829
theorem oo_L_830 {Γ : jΓ} {b LL : Nat} {xs : Nat → Int32} (E : E_L Γ b LL xs) : jSA Γ qT 830 (o_iadd) 1 := by
  obtain ⟨E1, E2, ⟨nm, C⟩, S⟩ := E
  exact so_iadd C dL_law_830
theorem oo_L_831 {Γ : jΓ} {b LL : Nat} {xs : Nat → Int32} (E : E_L Γ b LL xs) : jSA Γ qT 831 (o_sld LL xs) 1 := by
  obtain ⟨E1, E2, ⟨nm, C⟩, S⟩ := E
  exact so_sld C S dL_law_831
theorem oo_L_832 {Γ : jΓ} {b LL : Nat} {xs : Nat → Int32} (E : E_L Γ b LL xs) : jSA Γ qT 832 (o_aload 0) 1 := by
  obtain ⟨E1, E2, ⟨nm, C⟩, S⟩ := E
  exact so_aload_n C rfl dL_law_832
theorem oo_L_833 {Γ : jΓ} {b LL : Nat} {xs : Nat → Int32} (E : E_L Γ b LL xs) : jSA Γ qT 833 (o_iload 3) 1 := by
  obtain ⟨E1, E2, ⟨nm, C⟩, S⟩ := E
  exact so_iload_n C rfl dL_law_833
theorem oo_L_834 {Γ : jΓ} {b LL : Nat} {xs : Nat → Int32} (E : E_L Γ b LL xs) : jSA Γ qT 834 (o_ic (5)) 1 := by
  obtain ⟨E1, E2, ⟨nm, C⟩, S⟩ := E
  exact so_iconst C rfl dL_law_834
theorem oo_L_835 {Γ : jΓ} {b LL : Nat} {xs : Nat → Int32} (E : E_L Γ b LL xs) : jSA Γ qT 835 (o_iadd) 1 := by
  obtain ⟨E1, E2, ⟨nm, C⟩, S⟩ := E
  exact so_iadd C dL_law_835
theorem oo_L_836 {Γ : jΓ} {b LL : Nat} {xs : Nat → Int32} (E : E_L Γ b LL xs) : jSA Γ qT 836 (o_sld LL xs) 1 := by
  obtain ⟨E1, E2, ⟨nm, C⟩, S⟩ := E
  exact so_sld C S dL_law_836
theorem oo_L_837 {Γ : jΓ} {b LL : Nat} {xs : Nat → Int32} (E : E_L Γ b LL xs) : jSA Γ qT 837 (o_aload 0) 1 := by
  obtain ⟨E1, E2, ⟨nm, C⟩, S⟩ := E
  exact so_aload_n C rfl dL_law_837
theorem oo_L_838 {Γ : jΓ} {b LL : Nat} {xs : Nat → Int32} (E : E_L Γ b LL xs) : jSA Γ qT 838 (o_iload 3) 1 := by
  obtain ⟨E1, E2, ⟨nm, C⟩, S⟩ := E
  exact so_iload_n C rfl dL_law_838
theorem oo_L_839 {Γ : jΓ} {b LL : Nat} {xs : Nat → Int32} (E : E_L Γ b LL xs) : jSA Γ qT 839 (o_ic (6)) 2 := by
  obtain ⟨E1, E2, ⟨nm, C⟩, S⟩ := E
  exact so_bipush C rfl dL_law_839
theorem oo_L_841 {Γ : jΓ} {b LL : Nat} {xs : Nat → Int32} (E : E_L Γ b LL xs) : jSA Γ qT 841 (o_iadd) 1 := by
  obtain ⟨E1, E2, ⟨nm, C⟩, S⟩ := E
  exact so_iadd C dL_law_841
theorem oo_L_842 {Γ : jΓ} {b LL : Nat} {xs : Nat → Int32} (E : E_L Γ b LL xs) : jSA Γ qT 842 (o_sld LL xs) 1 := by
  obtain ⟨E1, E2, ⟨nm, C⟩, S⟩ := E
  exact so_sld C S dL_law_842
theorem oo_L_843 {Γ : jΓ} {b LL : Nat} {xs : Nat → Int32} (E : E_L Γ b LL xs) : jSA Γ qT 843 (o_callV 7 6 T_X6_lay) 3 := by
  obtain ⟨E1, E2, ⟨nm, C⟩, S⟩ := E
  exact so_callV C (ci := 6) (by rw [E2]; rfl) gL_law_X6_lay (by decide +kernel) rfl (by rw [E2]; exact m_X6_lay _) (by decide) (by decide) dL_law_843
theorem ok_L_811 {Γ : jΓ} {b LL : Nat} {xs : Nat → Int32} (E : E_L Γ b LL xs) : jSS Γ qT 811 (sg_L_811 LL xs) := ⟨oo_L_811 E, oo_L_812 E, oo_L_813 E, oo_L_814 E, oo_L_815 E, oo_L_816 E, oo_L_817 E, oo_L_818 E, oo_L_819 E, oo_L_820 E, oo_L_821 E, oo_L_822 E, oo_L_823 E, oo_L_824 E, oo_L_825 E, oo_L_826 E, oo_L_827 E, oo_L_828 E, oo_L_829 E, oo_L_830 E, oo_L_831 E, oo_L_832 E, oo_L_833 E, oo_L_834 E, oo_L_835 E, oo_L_836 E, oo_L_837 E, oo_L_838 E, oo_L_839 E, oo_L_841 E, oo_L_842 E, oo_L_843 E, trivial⟩
theorem H_L_811 {Γ : jΓ} {b LL : Nat} {xs : Nat → Int32} (E : E_L Γ b LL xs) : jHd cd_L (jG Γ) qT (sg_L_811 LL xs) 811 := fun n L st K h ce sl => jwp_ok (cd := cd_L) (Γ := Γ) (Q := qT) okc_L n (sg_L_811 LL xs) 811 (ok_L_811 E) L st K h ce sl
theorem oo_L_846 {Γ : jΓ} {b LL : Nat} {xs : Nat → Int32} (E : E_L Γ b LL xs) : jSA Γ qT 846 (o_aload 2) 1 := by
  obtain ⟨E1, E2, ⟨nm, C⟩, S⟩ := E
  exact so_aload_n C rfl dL_law_846
theorem oo_L_847 {Γ : jΓ} {b LL : Nat} {xs : Nat → Int32} (E : E_L Γ b LL xs) : jSA Γ qT 847 (o_aload 0) 1 := by
  obtain ⟨E1, E2, ⟨nm, C⟩, S⟩ := E
  exact so_aload_n C rfl dL_law_847
theorem oo_L_848 {Γ : jΓ} {b LL : Nat} {xs : Nat → Int32} (E : E_L Γ b LL xs) : jSA Γ qT 848 (o_iload 3) 1 := by
  obtain ⟨E1, E2, ⟨nm, C⟩, S⟩ := E
  exact so_iload_n C rfl dL_law_848
theorem oo_L_849 {Γ : jΓ} {b LL : Nat} {xs : Nat → Int32} (E : E_L Γ b LL xs) : jSA Γ qT 849 (o_ic (1)) 1 := by
  obtain ⟨E1, E2, ⟨nm, C⟩, S⟩ := E
  exact so_iconst C rfl dL_law_849
theorem oo_L_850 {Γ : jΓ} {b LL : Nat} {xs : Nat → Int32} (E : E_L Γ b LL xs) : jSA Γ qT 850 (o_iadd) 1 := by
  obtain ⟨E1, E2, ⟨nm, C⟩, S⟩ := E
  exact so_iadd C dL_law_850
theorem oo_L_851 {Γ : jΓ} {b LL : Nat} {xs : Nat → Int32} (E : E_L Γ b LL xs) : jSA Γ qT 851 (o_sld LL xs) 1 := by
  obtain ⟨E1, E2, ⟨nm, C⟩, S⟩ := E
  exact so_sld C S dL_law_851
theorem oo_L_852 {Γ : jΓ} {b LL : Nat} {xs : Nat → Int32} (E : E_L Γ b LL xs) : jSA Γ qT 852 (o_aload 0) 1 := by
  obtain ⟨E1, E2, ⟨nm, C⟩, S⟩ := E
  exact so_aload_n C rfl dL_law_852
theorem oo_L_853 {Γ : jΓ} {b LL : Nat} {xs : Nat → Int32} (E : E_L Γ b LL xs) : jSA Γ qT 853 (o_iload 3) 1 := by
  obtain ⟨E1, E2, ⟨nm, C⟩, S⟩ := E
  exact so_iload_n C rfl dL_law_853
theorem oo_L_854 {Γ : jΓ} {b LL : Nat} {xs : Nat → Int32} (E : E_L Γ b LL xs) : jSA Γ qT 854 (o_ic (2)) 1 := by
  obtain ⟨E1, E2, ⟨nm, C⟩, S⟩ := E
  exact so_iconst C rfl dL_law_854
theorem oo_L_855 {Γ : jΓ} {b LL : Nat} {xs : Nat → Int32} (E : E_L Γ b LL xs) : jSA Γ qT 855 (o_iadd) 1 := by
  obtain ⟨E1, E2, ⟨nm, C⟩, S⟩ := E
  exact so_iadd C dL_law_855
theorem oo_L_856 {Γ : jΓ} {b LL : Nat} {xs : Nat → Int32} (E : E_L Γ b LL xs) : jSA Γ qT 856 (o_sld LL xs) 1 := by
  obtain ⟨E1, E2, ⟨nm, C⟩, S⟩ := E
  exact so_sld C S dL_law_856
theorem oo_L_857 {Γ : jΓ} {b LL : Nat} {xs : Nat → Int32} (E : E_L Γ b LL xs) : jSA Γ qT 857 (o_aload 0) 1 := by
  obtain ⟨E1, E2, ⟨nm, C⟩, S⟩ := E
  exact so_aload_n C rfl dL_law_857
theorem oo_L_858 {Γ : jΓ} {b LL : Nat} {xs : Nat → Int32} (E : E_L Γ b LL xs) : jSA Γ qT 858 (o_iload 3) 1 := by
  obtain ⟨E1, E2, ⟨nm, C⟩, S⟩ := E
  exact so_iload_n C rfl dL_law_858
theorem oo_L_859 {Γ : jΓ} {b LL : Nat} {xs : Nat → Int32} (E : E_L Γ b LL xs) : jSA Γ qT 859 (o_ic (3)) 1 := by
  obtain ⟨E1, E2, ⟨nm, C⟩, S⟩ := E
  exact so_iconst C rfl dL_law_859
theorem oo_L_860 {Γ : jΓ} {b LL : Nat} {xs : Nat → Int32} (E : E_L Γ b LL xs) : jSA Γ qT 860 (o_iadd) 1 := by
  obtain ⟨E1, E2, ⟨nm, C⟩, S⟩ := E
  exact so_iadd C dL_law_860
theorem oo_L_861 {Γ : jΓ} {b LL : Nat} {xs : Nat → Int32} (E : E_L Γ b LL xs) : jSA Γ qT 861 (o_sld LL xs) 1 := by
  obtain ⟨E1, E2, ⟨nm, C⟩, S⟩ := E
  exact so_sld C S dL_law_861
theorem oo_L_862 {Γ : jΓ} {b LL : Nat} {xs : Nat → Int32} (E : E_L Γ b LL xs) : jSA Γ qT 862 (o_aload 0) 1 := by
  obtain ⟨E1, E2, ⟨nm, C⟩, S⟩ := E
  exact so_aload_n C rfl dL_law_862
theorem oo_L_863 {Γ : jΓ} {b LL : Nat} {xs : Nat → Int32} (E : E_L Γ b LL xs) : jSA Γ qT 863 (o_iload 3) 1 := by
  obtain ⟨E1, E2, ⟨nm, C⟩, S⟩ := E
  exact so_iload_n C rfl dL_law_863
theorem oo_L_864 {Γ : jΓ} {b LL : Nat} {xs : Nat → Int32} (E : E_L Γ b LL xs) : jSA Γ qT 864 (o_ic (4)) 1 := by
  obtain ⟨E1, E2, ⟨nm, C⟩, S⟩ := E
  exact so_iconst C rfl dL_law_864
theorem oo_L_865 {Γ : jΓ} {b LL : Nat} {xs : Nat → Int32} (E : E_L Γ b LL xs) : jSA Γ qT 865 (o_iadd) 1 := by
  obtain ⟨E1, E2, ⟨nm, C⟩, S⟩ := E
  exact so_iadd C dL_law_865
theorem oo_L_866 {Γ : jΓ} {b LL : Nat} {xs : Nat → Int32} (E : E_L Γ b LL xs) : jSA Γ qT 866 (o_sld LL xs) 1 := by
  obtain ⟨E1, E2, ⟨nm, C⟩, S⟩ := E
  exact so_sld C S dL_law_866
theorem oo_L_867 {Γ : jΓ} {b LL : Nat} {xs : Nat → Int32} (E : E_L Γ b LL xs) : jSA Γ qT 867 (o_aload 0) 1 := by
  obtain ⟨E1, E2, ⟨nm, C⟩, S⟩ := E
  exact so_aload_n C rfl dL_law_867
theorem oo_L_868 {Γ : jΓ} {b LL : Nat} {xs : Nat → Int32} (E : E_L Γ b LL xs) : jSA Γ qT 868 (o_iload 3) 1 := by
  obtain ⟨E1, E2, ⟨nm, C⟩, S⟩ := E
  exact so_iload_n C rfl dL_law_868
theorem oo_L_869 {Γ : jΓ} {b LL : Nat} {xs : Nat → Int32} (E : E_L Γ b LL xs) : jSA Γ qT 869 (o_ic (5)) 1 := by
  obtain ⟨E1, E2, ⟨nm, C⟩, S⟩ := E
  exact so_iconst C rfl dL_law_869
theorem oo_L_870 {Γ : jΓ} {b LL : Nat} {xs : Nat → Int32} (E : E_L Γ b LL xs) : jSA Γ qT 870 (o_iadd) 1 := by
  obtain ⟨E1, E2, ⟨nm, C⟩, S⟩ := E
  exact so_iadd C dL_law_870
theorem oo_L_871 {Γ : jΓ} {b LL : Nat} {xs : Nat → Int32} (E : E_L Γ b LL xs) : jSA Γ qT 871 (o_sld LL xs) 1 := by
  obtain ⟨E1, E2, ⟨nm, C⟩, S⟩ := E
  exact so_sld C S dL_law_871
theorem oo_L_872 {Γ : jΓ} {b LL : Nat} {xs : Nat → Int32} (E : E_L Γ b LL xs) : jSA Γ qT 872 (o_aload 0) 1 := by
  obtain ⟨E1, E2, ⟨nm, C⟩, S⟩ := E
  exact so_aload_n C rfl dL_law_872
theorem oo_L_873 {Γ : jΓ} {b LL : Nat} {xs : Nat → Int32} (E : E_L Γ b LL xs) : jSA Γ qT 873 (o_iload 3) 1 := by
  obtain ⟨E1, E2, ⟨nm, C⟩, S⟩ := E
  exact so_iload_n C rfl dL_law_873
theorem oo_L_874 {Γ : jΓ} {b LL : Nat} {xs : Nat → Int32} (E : E_L Γ b LL xs) : jSA Γ qT 874 (o_ic (6)) 2 := by
  obtain ⟨E1, E2, ⟨nm, C⟩, S⟩ := E
  exact so_bipush C rfl dL_law_874
theorem oo_L_876 {Γ : jΓ} {b LL : Nat} {xs : Nat → Int32} (E : E_L Γ b LL xs) : jSA Γ qT 876 (o_iadd) 1 := by
  obtain ⟨E1, E2, ⟨nm, C⟩, S⟩ := E
  exact so_iadd C dL_law_876
theorem oo_L_877 {Γ : jΓ} {b LL : Nat} {xs : Nat → Int32} (E : E_L Γ b LL xs) : jSA Γ qT 877 (o_sld LL xs) 1 := by
  obtain ⟨E1, E2, ⟨nm, C⟩, S⟩ := E
  exact so_sld C S dL_law_877
theorem oo_L_878 {Γ : jΓ} {b LL : Nat} {xs : Nat → Int32} (E : E_L Γ b LL xs) : jSA Γ qT 878 (o_callV 7 7 T_X7_lay) 3 := by
  obtain ⟨E1, E2, ⟨nm, C⟩, S⟩ := E
  exact so_callV C (ci := 7) (by rw [E2]; rfl) gL_law_X7_lay (by decide +kernel) rfl (by rw [E2]; exact m_X7_lay _) (by decide) (by decide) dL_law_878
theorem oo_L_881 {Γ : jΓ} {b LL : Nat} {xs : Nat → Int32} (E : E_L Γ b LL xs) : jSA Γ qT 881 (o_iceq 949) 3 := by
  obtain ⟨E1, E2, ⟨nm, C⟩, S⟩ := E
  exact so_iceq C (by decide) dL_law_881
theorem oo_L_884 {Γ : jΓ} {b LL : Nat} {xs : Nat → Int32} (E : E_L Γ b LL xs) : jSA Γ qT 884 (o_ic (0)) 1 := by
  obtain ⟨E1, E2, ⟨nm, C⟩, S⟩ := E
  exact so_iconst C rfl dL_law_884
theorem ok_L_846 {Γ : jΓ} {b LL : Nat} {xs : Nat → Int32} (E : E_L Γ b LL xs) : jSS Γ qT 846 (sg_L_846 LL xs) := ⟨oo_L_846 E, oo_L_847 E, oo_L_848 E, oo_L_849 E, oo_L_850 E, oo_L_851 E, oo_L_852 E, oo_L_853 E, oo_L_854 E, oo_L_855 E, oo_L_856 E, oo_L_857 E, oo_L_858 E, oo_L_859 E, oo_L_860 E, oo_L_861 E, oo_L_862 E, oo_L_863 E, oo_L_864 E, oo_L_865 E, oo_L_866 E, oo_L_867 E, oo_L_868 E, oo_L_869 E, oo_L_870 E, oo_L_871 E, oo_L_872 E, oo_L_873 E, oo_L_874 E, oo_L_876 E, oo_L_877 E, oo_L_878 E, oo_L_881 E, oo_L_884 E, trivial⟩
theorem H_L_846 {Γ : jΓ} {b LL : Nat} {xs : Nat → Int32} (E : E_L Γ b LL xs) : jHd cd_L (jG Γ) qT (sg_L_846 LL xs) 846 := fun n L st K h ce sl => jwp_ok (cd := cd_L) (Γ := Γ) (Q := qT) okc_L n (sg_L_846 LL xs) 846 (ok_L_846 E) L st K h ce sl
theorem oo_L_886 {Γ : jΓ} {b LL : Nat} {xs : Nat → Int32} (E : E_L Γ b LL xs) : jSA Γ qT 886 (o_aload 1) 1 := by
  obtain ⟨E1, E2, ⟨nm, C⟩, S⟩ := E
  exact so_aload_n C rfl dL_law_886
theorem oo_L_887 {Γ : jΓ} {b LL : Nat} {xs : Nat → Int32} (E : E_L Γ b LL xs) : jSA Γ qT 887 (o_aload 0) 1 := by
  obtain ⟨E1, E2, ⟨nm, C⟩, S⟩ := E
  exact so_aload_n C rfl dL_law_887
theorem oo_L_888 {Γ : jΓ} {b LL : Nat} {xs : Nat → Int32} (E : E_L Γ b LL xs) : jSA Γ qT 888 (o_iload 3) 1 := by
  obtain ⟨E1, E2, ⟨nm, C⟩, S⟩ := E
  exact so_iload_n C rfl dL_law_888
theorem oo_L_889 {Γ : jΓ} {b LL : Nat} {xs : Nat → Int32} (E : E_L Γ b LL xs) : jSA Γ qT 889 (o_ic (1)) 1 := by
  obtain ⟨E1, E2, ⟨nm, C⟩, S⟩ := E
  exact so_iconst C rfl dL_law_889
theorem oo_L_890 {Γ : jΓ} {b LL : Nat} {xs : Nat → Int32} (E : E_L Γ b LL xs) : jSA Γ qT 890 (o_iadd) 1 := by
  obtain ⟨E1, E2, ⟨nm, C⟩, S⟩ := E
  exact so_iadd C dL_law_890
theorem oo_L_891 {Γ : jΓ} {b LL : Nat} {xs : Nat → Int32} (E : E_L Γ b LL xs) : jSA Γ qT 891 (o_sld LL xs) 1 := by
  obtain ⟨E1, E2, ⟨nm, C⟩, S⟩ := E
  exact so_sld C S dL_law_891
theorem oo_L_892 {Γ : jΓ} {b LL : Nat} {xs : Nat → Int32} (E : E_L Γ b LL xs) : jSA Γ qT 892 (o_aload 0) 1 := by
  obtain ⟨E1, E2, ⟨nm, C⟩, S⟩ := E
  exact so_aload_n C rfl dL_law_892
theorem oo_L_893 {Γ : jΓ} {b LL : Nat} {xs : Nat → Int32} (E : E_L Γ b LL xs) : jSA Γ qT 893 (o_iload 3) 1 := by
  obtain ⟨E1, E2, ⟨nm, C⟩, S⟩ := E
  exact so_iload_n C rfl dL_law_893
theorem oo_L_894 {Γ : jΓ} {b LL : Nat} {xs : Nat → Int32} (E : E_L Γ b LL xs) : jSA Γ qT 894 (o_ic (2)) 1 := by
  obtain ⟨E1, E2, ⟨nm, C⟩, S⟩ := E
  exact so_iconst C rfl dL_law_894
theorem oo_L_895 {Γ : jΓ} {b LL : Nat} {xs : Nat → Int32} (E : E_L Γ b LL xs) : jSA Γ qT 895 (o_iadd) 1 := by
  obtain ⟨E1, E2, ⟨nm, C⟩, S⟩ := E
  exact so_iadd C dL_law_895
theorem oo_L_896 {Γ : jΓ} {b LL : Nat} {xs : Nat → Int32} (E : E_L Γ b LL xs) : jSA Γ qT 896 (o_sld LL xs) 1 := by
  obtain ⟨E1, E2, ⟨nm, C⟩, S⟩ := E
  exact so_sld C S dL_law_896
theorem oo_L_897 {Γ : jΓ} {b LL : Nat} {xs : Nat → Int32} (E : E_L Γ b LL xs) : jSA Γ qT 897 (o_aload 0) 1 := by
  obtain ⟨E1, E2, ⟨nm, C⟩, S⟩ := E
  exact so_aload_n C rfl dL_law_897
theorem oo_L_898 {Γ : jΓ} {b LL : Nat} {xs : Nat → Int32} (E : E_L Γ b LL xs) : jSA Γ qT 898 (o_iload 3) 1 := by
  obtain ⟨E1, E2, ⟨nm, C⟩, S⟩ := E
  exact so_iload_n C rfl dL_law_898
theorem oo_L_899 {Γ : jΓ} {b LL : Nat} {xs : Nat → Int32} (E : E_L Γ b LL xs) : jSA Γ qT 899 (o_ic (3)) 1 := by
  obtain ⟨E1, E2, ⟨nm, C⟩, S⟩ := E
  exact so_iconst C rfl dL_law_899
theorem oo_L_900 {Γ : jΓ} {b LL : Nat} {xs : Nat → Int32} (E : E_L Γ b LL xs) : jSA Γ qT 900 (o_iadd) 1 := by
  obtain ⟨E1, E2, ⟨nm, C⟩, S⟩ := E
  exact so_iadd C dL_law_900
theorem oo_L_901 {Γ : jΓ} {b LL : Nat} {xs : Nat → Int32} (E : E_L Γ b LL xs) : jSA Γ qT 901 (o_sld LL xs) 1 := by
  obtain ⟨E1, E2, ⟨nm, C⟩, S⟩ := E
  exact so_sld C S dL_law_901
theorem oo_L_902 {Γ : jΓ} {b LL : Nat} {xs : Nat → Int32} (E : E_L Γ b LL xs) : jSA Γ qT 902 (o_aload 0) 1 := by
  obtain ⟨E1, E2, ⟨nm, C⟩, S⟩ := E
  exact so_aload_n C rfl dL_law_902
theorem oo_L_903 {Γ : jΓ} {b LL : Nat} {xs : Nat → Int32} (E : E_L Γ b LL xs) : jSA Γ qT 903 (o_iload 3) 1 := by
  obtain ⟨E1, E2, ⟨nm, C⟩, S⟩ := E
  exact so_iload_n C rfl dL_law_903
theorem oo_L_904 {Γ : jΓ} {b LL : Nat} {xs : Nat → Int32} (E : E_L Γ b LL xs) : jSA Γ qT 904 (o_ic (4)) 1 := by
  obtain ⟨E1, E2, ⟨nm, C⟩, S⟩ := E
  exact so_iconst C rfl dL_law_904
theorem oo_L_905 {Γ : jΓ} {b LL : Nat} {xs : Nat → Int32} (E : E_L Γ b LL xs) : jSA Γ qT 905 (o_iadd) 1 := by
  obtain ⟨E1, E2, ⟨nm, C⟩, S⟩ := E
  exact so_iadd C dL_law_905
theorem oo_L_906 {Γ : jΓ} {b LL : Nat} {xs : Nat → Int32} (E : E_L Γ b LL xs) : jSA Γ qT 906 (o_sld LL xs) 1 := by
  obtain ⟨E1, E2, ⟨nm, C⟩, S⟩ := E
  exact so_sld C S dL_law_906
theorem oo_L_907 {Γ : jΓ} {b LL : Nat} {xs : Nat → Int32} (E : E_L Γ b LL xs) : jSA Γ qT 907 (o_aload 0) 1 := by
  obtain ⟨E1, E2, ⟨nm, C⟩, S⟩ := E
  exact so_aload_n C rfl dL_law_907
theorem oo_L_908 {Γ : jΓ} {b LL : Nat} {xs : Nat → Int32} (E : E_L Γ b LL xs) : jSA Γ qT 908 (o_iload 3) 1 := by
  obtain ⟨E1, E2, ⟨nm, C⟩, S⟩ := E
  exact so_iload_n C rfl dL_law_908
theorem oo_L_909 {Γ : jΓ} {b LL : Nat} {xs : Nat → Int32} (E : E_L Γ b LL xs) : jSA Γ qT 909 (o_ic (5)) 1 := by
  obtain ⟨E1, E2, ⟨nm, C⟩, S⟩ := E
  exact so_iconst C rfl dL_law_909
theorem oo_L_910 {Γ : jΓ} {b LL : Nat} {xs : Nat → Int32} (E : E_L Γ b LL xs) : jSA Γ qT 910 (o_iadd) 1 := by
  obtain ⟨E1, E2, ⟨nm, C⟩, S⟩ := E
  exact so_iadd C dL_law_910
theorem oo_L_911 {Γ : jΓ} {b LL : Nat} {xs : Nat → Int32} (E : E_L Γ b LL xs) : jSA Γ qT 911 (o_sld LL xs) 1 := by
  obtain ⟨E1, E2, ⟨nm, C⟩, S⟩ := E
  exact so_sld C S dL_law_911
theorem oo_L_912 {Γ : jΓ} {b LL : Nat} {xs : Nat → Int32} (E : E_L Γ b LL xs) : jSA Γ qT 912 (o_callV 6 6 T_X6_copy) 3 := by
  obtain ⟨E1, E2, ⟨nm, C⟩, S⟩ := E
  exact so_callV C (ci := 6) (by rw [E2]; rfl) gL_law_X6_copy (by decide +kernel) rfl (by rw [E2]; exact m_X6_copy _) (by decide) (by decide) dL_law_912
theorem ok_L_886 {Γ : jΓ} {b LL : Nat} {xs : Nat → Int32} (E : E_L Γ b LL xs) : jSS Γ qT 886 (sg_L_886 LL xs) := ⟨oo_L_886 E, oo_L_887 E, oo_L_888 E, oo_L_889 E, oo_L_890 E, oo_L_891 E, oo_L_892 E, oo_L_893 E, oo_L_894 E, oo_L_895 E, oo_L_896 E, oo_L_897 E, oo_L_898 E, oo_L_899 E, oo_L_900 E, oo_L_901 E, oo_L_902 E, oo_L_903 E, oo_L_904 E, oo_L_905 E, oo_L_906 E, oo_L_907 E, oo_L_908 E, oo_L_909 E, oo_L_910 E, oo_L_911 E, oo_L_912 E, trivial⟩
theorem H_L_886 {Γ : jΓ} {b LL : Nat} {xs : Nat → Int32} (E : E_L Γ b LL xs) : jHd cd_L (jG Γ) qT (sg_L_886 LL xs) 886 := fun n L st K h ce sl => jwp_ok (cd := cd_L) (Γ := Γ) (Q := qT) okc_L n (sg_L_886 LL xs) 886 (ok_L_886 E) L st K h ce sl
theorem oo_L_915 {Γ : jΓ} {b LL : Nat} {xs : Nat → Int32} (E : E_L Γ b LL xs) : jSA Γ qT 915 (o_aload 2) 1 := by
  obtain ⟨E1, E2, ⟨nm, C⟩, S⟩ := E
  exact so_aload_n C rfl dL_law_915
theorem oo_L_916 {Γ : jΓ} {b LL : Nat} {xs : Nat → Int32} (E : E_L Γ b LL xs) : jSA Γ qT 916 (o_aload 0) 1 := by
  obtain ⟨E1, E2, ⟨nm, C⟩, S⟩ := E
  exact so_aload_n C rfl dL_law_916
theorem oo_L_917 {Γ : jΓ} {b LL : Nat} {xs : Nat → Int32} (E : E_L Γ b LL xs) : jSA Γ qT 917 (o_iload 3) 1 := by
  obtain ⟨E1, E2, ⟨nm, C⟩, S⟩ := E
  exact so_iload_n C rfl dL_law_917
theorem oo_L_918 {Γ : jΓ} {b LL : Nat} {xs : Nat → Int32} (E : E_L Γ b LL xs) : jSA Γ qT 918 (o_ic (1)) 1 := by
  obtain ⟨E1, E2, ⟨nm, C⟩, S⟩ := E
  exact so_iconst C rfl dL_law_918
theorem oo_L_919 {Γ : jΓ} {b LL : Nat} {xs : Nat → Int32} (E : E_L Γ b LL xs) : jSA Γ qT 919 (o_iadd) 1 := by
  obtain ⟨E1, E2, ⟨nm, C⟩, S⟩ := E
  exact so_iadd C dL_law_919
theorem oo_L_920 {Γ : jΓ} {b LL : Nat} {xs : Nat → Int32} (E : E_L Γ b LL xs) : jSA Γ qT 920 (o_sld LL xs) 1 := by
  obtain ⟨E1, E2, ⟨nm, C⟩, S⟩ := E
  exact so_sld C S dL_law_920
theorem oo_L_921 {Γ : jΓ} {b LL : Nat} {xs : Nat → Int32} (E : E_L Γ b LL xs) : jSA Γ qT 921 (o_aload 0) 1 := by
  obtain ⟨E1, E2, ⟨nm, C⟩, S⟩ := E
  exact so_aload_n C rfl dL_law_921
theorem oo_L_922 {Γ : jΓ} {b LL : Nat} {xs : Nat → Int32} (E : E_L Γ b LL xs) : jSA Γ qT 922 (o_iload 3) 1 := by
  obtain ⟨E1, E2, ⟨nm, C⟩, S⟩ := E
  exact so_iload_n C rfl dL_law_922
theorem oo_L_923 {Γ : jΓ} {b LL : Nat} {xs : Nat → Int32} (E : E_L Γ b LL xs) : jSA Γ qT 923 (o_ic (2)) 1 := by
  obtain ⟨E1, E2, ⟨nm, C⟩, S⟩ := E
  exact so_iconst C rfl dL_law_923
theorem oo_L_924 {Γ : jΓ} {b LL : Nat} {xs : Nat → Int32} (E : E_L Γ b LL xs) : jSA Γ qT 924 (o_iadd) 1 := by
  obtain ⟨E1, E2, ⟨nm, C⟩, S⟩ := E
  exact so_iadd C dL_law_924
theorem oo_L_925 {Γ : jΓ} {b LL : Nat} {xs : Nat → Int32} (E : E_L Γ b LL xs) : jSA Γ qT 925 (o_sld LL xs) 1 := by
  obtain ⟨E1, E2, ⟨nm, C⟩, S⟩ := E
  exact so_sld C S dL_law_925
theorem oo_L_926 {Γ : jΓ} {b LL : Nat} {xs : Nat → Int32} (E : E_L Γ b LL xs) : jSA Γ qT 926 (o_aload 0) 1 := by
  obtain ⟨E1, E2, ⟨nm, C⟩, S⟩ := E
  exact so_aload_n C rfl dL_law_926
theorem oo_L_927 {Γ : jΓ} {b LL : Nat} {xs : Nat → Int32} (E : E_L Γ b LL xs) : jSA Γ qT 927 (o_iload 3) 1 := by
  obtain ⟨E1, E2, ⟨nm, C⟩, S⟩ := E
  exact so_iload_n C rfl dL_law_927
theorem oo_L_928 {Γ : jΓ} {b LL : Nat} {xs : Nat → Int32} (E : E_L Γ b LL xs) : jSA Γ qT 928 (o_ic (3)) 1 := by
  obtain ⟨E1, E2, ⟨nm, C⟩, S⟩ := E
  exact so_iconst C rfl dL_law_928
theorem oo_L_929 {Γ : jΓ} {b LL : Nat} {xs : Nat → Int32} (E : E_L Γ b LL xs) : jSA Γ qT 929 (o_iadd) 1 := by
  obtain ⟨E1, E2, ⟨nm, C⟩, S⟩ := E
  exact so_iadd C dL_law_929
theorem oo_L_930 {Γ : jΓ} {b LL : Nat} {xs : Nat → Int32} (E : E_L Γ b LL xs) : jSA Γ qT 930 (o_sld LL xs) 1 := by
  obtain ⟨E1, E2, ⟨nm, C⟩, S⟩ := E
  exact so_sld C S dL_law_930
theorem oo_L_931 {Γ : jΓ} {b LL : Nat} {xs : Nat → Int32} (E : E_L Γ b LL xs) : jSA Γ qT 931 (o_aload 0) 1 := by
  obtain ⟨E1, E2, ⟨nm, C⟩, S⟩ := E
  exact so_aload_n C rfl dL_law_931
theorem oo_L_932 {Γ : jΓ} {b LL : Nat} {xs : Nat → Int32} (E : E_L Γ b LL xs) : jSA Γ qT 932 (o_iload 3) 1 := by
  obtain ⟨E1, E2, ⟨nm, C⟩, S⟩ := E
  exact so_iload_n C rfl dL_law_932
theorem oo_L_933 {Γ : jΓ} {b LL : Nat} {xs : Nat → Int32} (E : E_L Γ b LL xs) : jSA Γ qT 933 (o_ic (4)) 1 := by
  obtain ⟨E1, E2, ⟨nm, C⟩, S⟩ := E
  exact so_iconst C rfl dL_law_933
theorem oo_L_934 {Γ : jΓ} {b LL : Nat} {xs : Nat → Int32} (E : E_L Γ b LL xs) : jSA Γ qT 934 (o_iadd) 1 := by
  obtain ⟨E1, E2, ⟨nm, C⟩, S⟩ := E
  exact so_iadd C dL_law_934
theorem oo_L_935 {Γ : jΓ} {b LL : Nat} {xs : Nat → Int32} (E : E_L Γ b LL xs) : jSA Γ qT 935 (o_sld LL xs) 1 := by
  obtain ⟨E1, E2, ⟨nm, C⟩, S⟩ := E
  exact so_sld C S dL_law_935
theorem oo_L_936 {Γ : jΓ} {b LL : Nat} {xs : Nat → Int32} (E : E_L Γ b LL xs) : jSA Γ qT 936 (o_aload 0) 1 := by
  obtain ⟨E1, E2, ⟨nm, C⟩, S⟩ := E
  exact so_aload_n C rfl dL_law_936
theorem oo_L_937 {Γ : jΓ} {b LL : Nat} {xs : Nat → Int32} (E : E_L Γ b LL xs) : jSA Γ qT 937 (o_iload 3) 1 := by
  obtain ⟨E1, E2, ⟨nm, C⟩, S⟩ := E
  exact so_iload_n C rfl dL_law_937
theorem oo_L_938 {Γ : jΓ} {b LL : Nat} {xs : Nat → Int32} (E : E_L Γ b LL xs) : jSA Γ qT 938 (o_ic (5)) 1 := by
  obtain ⟨E1, E2, ⟨nm, C⟩, S⟩ := E
  exact so_iconst C rfl dL_law_938
theorem oo_L_939 {Γ : jΓ} {b LL : Nat} {xs : Nat → Int32} (E : E_L Γ b LL xs) : jSA Γ qT 939 (o_iadd) 1 := by
  obtain ⟨E1, E2, ⟨nm, C⟩, S⟩ := E
  exact so_iadd C dL_law_939
theorem oo_L_940 {Γ : jΓ} {b LL : Nat} {xs : Nat → Int32} (E : E_L Γ b LL xs) : jSA Γ qT 940 (o_sld LL xs) 1 := by
  obtain ⟨E1, E2, ⟨nm, C⟩, S⟩ := E
  exact so_sld C S dL_law_940
theorem oo_L_941 {Γ : jΓ} {b LL : Nat} {xs : Nat → Int32} (E : E_L Γ b LL xs) : jSA Γ qT 941 (o_callV 6 7 T_X7_copy) 3 := by
  obtain ⟨E1, E2, ⟨nm, C⟩, S⟩ := E
  exact so_callV C (ci := 7) (by rw [E2]; rfl) gL_law_X7_copy (by decide +kernel) rfl (by rw [E2]; exact m_X7_copy _) (by decide) (by decide) dL_law_941
theorem oo_L_944 {Γ : jΓ} {b LL : Nat} {xs : Nat → Int32} (E : E_L Γ b LL xs) : jSA Γ qT 944 (o_iceq 949) 3 := by
  obtain ⟨E1, E2, ⟨nm, C⟩, S⟩ := E
  exact so_iceq C (by decide) dL_law_944
theorem oo_L_947 {Γ : jΓ} {b LL : Nat} {xs : Nat → Int32} (E : E_L Γ b LL xs) : jSA Γ qT 947 (o_ic (0)) 1 := by
  obtain ⟨E1, E2, ⟨nm, C⟩, S⟩ := E
  exact so_iconst C rfl dL_law_947
theorem ok_L_915 {Γ : jΓ} {b LL : Nat} {xs : Nat → Int32} (E : E_L Γ b LL xs) : jSS Γ qT 915 (sg_L_915 LL xs) := ⟨oo_L_915 E, oo_L_916 E, oo_L_917 E, oo_L_918 E, oo_L_919 E, oo_L_920 E, oo_L_921 E, oo_L_922 E, oo_L_923 E, oo_L_924 E, oo_L_925 E, oo_L_926 E, oo_L_927 E, oo_L_928 E, oo_L_929 E, oo_L_930 E, oo_L_931 E, oo_L_932 E, oo_L_933 E, oo_L_934 E, oo_L_935 E, oo_L_936 E, oo_L_937 E, oo_L_938 E, oo_L_939 E, oo_L_940 E, oo_L_941 E, oo_L_944 E, oo_L_947 E, trivial⟩
theorem H_L_915 {Γ : jΓ} {b LL : Nat} {xs : Nat → Int32} (E : E_L Γ b LL xs) : jHd cd_L (jG Γ) qT (sg_L_915 LL xs) 915 := fun n L st K h ce sl => jwp_ok (cd := cd_L) (Γ := Γ) (Q := qT) okc_L n (sg_L_915 LL xs) 915 (ok_L_915 E) L st K h ce sl
theorem oo_L_949 {Γ : jΓ} {b LL : Nat} {xs : Nat → Int32} (E : E_L Γ b LL xs) : jSA Γ qT 949 (o_iinc 3 (7)) 3 := by
  obtain ⟨E1, E2, ⟨nm, C⟩, S⟩ := E
  exact so_iinc C rfl (by rw [E1]; decide) dL_law_949
theorem oo_L_952 {Γ : jΓ} {b LL : Nat} {xs : Nat → Int32} (E : E_L Γ b LL xs) : jSA Γ qT 952 (o_goto 18) 3 := by
  obtain ⟨E1, E2, ⟨nm, C⟩, S⟩ := E
  exact so_goto C (by decide) dL_law_952
theorem ok_L_949 {Γ : jΓ} {b LL : Nat} {xs : Nat → Int32} (E : E_L Γ b LL xs) : jSS Γ qT 949 (sg_L_949 LL xs) := ⟨oo_L_949 E, oo_L_952 E, trivial⟩
theorem H_L_949 {Γ : jΓ} {b LL : Nat} {xs : Nat → Int32} (E : E_L Γ b LL xs) : jHd cd_L (jG Γ) qT (sg_L_949 LL xs) 949 := fun n L st K h ce sl => jwp_ok (cd := cd_L) (Γ := Γ) (Q := qT) okc_L n (sg_L_949 LL xs) 949 (ok_L_949 E) L st K h ce sl
theorem oo_L_955 {Γ : jΓ} {b LL : Nat} {xs : Nat → Int32} (E : E_L Γ b LL xs) : jSA Γ qT 955 (o_ic (1)) 1 := by
  obtain ⟨E1, E2, ⟨nm, C⟩, S⟩ := E
  exact so_iconst C rfl dL_law_955
theorem ok_L_955 {Γ : jΓ} {b LL : Nat} {xs : Nat → Int32} (E : E_L Γ b LL xs) : jSS Γ qT 955 (sg_L_955 LL xs) := ⟨oo_L_955 E, trivial⟩
theorem H_L_955 {Γ : jΓ} {b LL : Nat} {xs : Nat → Int32} (E : E_L Γ b LL xs) : jHd cd_L (jG Γ) qT (sg_L_955 LL xs) 955 := fun n L st K h ce sl => jwp_ok (cd := cd_L) (Γ := Γ) (Q := qT) okc_L n (sg_L_955 LL xs) 955 (ok_L_955 E) L st K h ce sl
