/-! ===== the class's calls, those without steps ===== -/
theorem le_of_lit {x : Int32} {n : Int32} (h : n ≤ x) : n.toInt ≤ x.toInt := by rwa [Int32.le_iff_toInt_le] at h
theorem sh_of {s : Int32} (h : 0 ≤ s ∧ s ≤ 3) : ∃ j, j < 4 ∧ s = nI j := by
  have h1 : (0 : Int) ≤ s.toInt := le_of_lit h.1
  have h2 : s.toInt ≤ (3 : Int) := le_of_lit h.2
  obtain ⟨j, hj, e⟩ := jnat (N := 3) h1 h2
  exact ⟨j, by omega, e⟩

/-! X6_floor -/
/-- the floor anew -/
def cFloor (h : jM) (k n : Int32) : jM :=
  let h1 := upr (upr (up2 (up2 h 1 0 k) 1 1 n) 2 (jfill 57600 0 (h 2))) 3 (jfill 57600 0 (h 3))
  up2 (up2 (up2 (up2 (jrst h1 n.toInt.toNat (jdirs h1) 4 0) 19 0 0) 24 0 0) 0 7 0) 0 8 0
def T_X6_floor : jT := fun vs K h Q => match vs with
  | [.ref r0, .int k, .int n] => r0 = 0 ∧ (jX K ∧ (¬ ((0 ≤ k ∧ k ≤ 1) ∧ 2 ≤ n ∧ n ≤ 12) → Q (some (.int (-1))) K h) ∧ ((0 ≤ k ∧ k ≤ 1) ∧ 2 ≤ n ∧ n ≤ 12 → Q (some (.int (h 0 7))) K (cFloor h k n)))
  | _ => False
def sg_X6_floor_0 : jS := [(o_iload 1, 1), (o_ic (0), 1), (o_ic (1), 1), (o_call 3 T_X6_isWithin, 3), (o_ifeq 19, 3), (o_iload 2, 1), (o_ic (2), 1), (o_ic (12), 2), (o_call 3 T_X6_isWithin, 3), (o_ifne 21, 3), (o_ic (-1), 1), (o_ireti, 1)]
def sg_X6_floor_19 : jS := [(o_ic (-1), 1), (o_ireti, 1)]
def sg_X6_floor_21 : jS := [(o_aload 0, 1), (o_getf 6 7, 3), (o_istore 3, 1), (o_aload 0, 1), (o_getf 6 0, 3), (o_iload 1, 1), (o_iload 2, 1), (o_callV 3 1 T_X1_restart, 3), (o_aload 0, 1), (o_getf 6 1, 3), (o_iload 2, 1), (o_aload 0, 1), (o_getf 6 0, 3), (o_callV 1 1 T_X1_directions, 3), (o_callV 3 4 T_X4_restart, 3), (o_aload 0, 1), (o_getf 6 4, 3), (o_callV 1 3 T_X3_forget, 3), (o_aload 0, 1), (o_getf 6 5, 3), (o_callV 1 2 T_X2_forget, 3), (o_aload 0, 1), (o_ic (0), 1), (o_putf 6 7, 3), (o_aload 0, 1), (o_ic (0), 1), (o_putf 6 8, 3), (o_iload 3, 1), (o_ireti, 1)]
def cd_X6_floor : Nat → jS := fun t => match t with
  | 19 => sg_X6_floor_19
  | 21 => sg_X6_floor_21
  | _ => []
theorem wl_X6_floor_12 : Cond.fieldLink RX6 12 (TX6 0).1 (TX6 0).2.1 (TX6 0).2.2.1 ∈ wsX6_floor := by decide +kernel
theorem wl_X6_floor_19 : Cond.fieldLink RX6 19 (TX6 1).1 (TX6 1).2.1 (TX6 1).2.2.1 ∈ wsX6_floor := by decide +kernel
theorem wl_X6_floor_37 : Cond.fieldLink RX6 37 (TX6 4).1 (TX6 4).2.1 (TX6 4).2.2.1 ∈ wsX6_floor := by decide +kernel
theorem wl_X6_floor_44 : Cond.fieldLink RX6 44 (TX6 5).1 (TX6 5).2.1 (TX6 5).2.2.1 ∈ wsX6_floor := by decide +kernel
theorem wl_X6_floor_67 : Cond.fieldLink RX6 67 (TX6 7).1 (TX6 7).2.1 (TX6 7).2.2.1 ∈ wsX6_floor := by decide +kernel
theorem wl_X6_floor_76 : Cond.fieldLink RX6 76 (TX6 8).1 (TX6 8).2.1 (TX6 8).2.2.1 ∈ wsX6_floor := by decide +kernel
theorem wi_X6_floor_X6 : ∀ w ∈ u_ws RX6 TX6 9, w ∈ wsX6_floor := by decide +kernel
def E_X6_floor (Γ : jΓ) (Q : jPost) : Prop := Γ.2.2.2.2.2.2.2.2.2.2.1 = 4 ∧ Γ.2.2.2.2.2.2.2.2.2.2.2.1 = vwCl ∧ jC Γ cX6_floor RX6 "floor" (some .int) wsX6_floor 2 46 0 0 ∧ jR Γ Q 0 0
theorem oo_X6_floor_0 {Γ : jΓ} {Q : jPost} (E : E_X6_floor Γ Q) : jSA Γ Q 0 (o_iload 1) 1 := so_iload_n E.2.2.1 rfl dX6_floor_0
theorem oo_X6_floor_1 {Γ : jΓ} {Q : jPost} (E : E_X6_floor Γ Q) : jSA Γ Q 1 (o_ic (0)) 1 := so_iconst E.2.2.1 rfl dX6_floor_1
theorem oo_X6_floor_2 {Γ : jΓ} {Q : jPost} (E : E_X6_floor Γ Q) : jSA Γ Q 2 (o_ic (1)) 1 := so_iconst E.2.2.1 rfl dX6_floor_2
theorem oo_X6_floor_3 {Γ : jΓ} {Q : jPost} (E : E_X6_floor Γ Q) : jSA Γ Q 3 (o_call 3 T_X6_isWithin) 3 := so_callS E.2.2.1 gX6_floor_X6_isWithin (by decide +kernel) rfl (by rw [E.2.1]; exact m_X6_isWithin _) (by decide) (by decide) dX6_floor_3
theorem oo_X6_floor_6 {Γ : jΓ} {Q : jPost} (E : E_X6_floor Γ Q) : jSA Γ Q 6 (o_ifeq 19) 3 := so_ifeq E.2.2.1 (by decide) dX6_floor_6
theorem oo_X6_floor_9 {Γ : jΓ} {Q : jPost} (E : E_X6_floor Γ Q) : jSA Γ Q 9 (o_iload 2) 1 := so_iload_n E.2.2.1 rfl dX6_floor_9
theorem oo_X6_floor_10 {Γ : jΓ} {Q : jPost} (E : E_X6_floor Γ Q) : jSA Γ Q 10 (o_ic (2)) 1 := so_iconst E.2.2.1 rfl dX6_floor_10
theorem oo_X6_floor_11 {Γ : jΓ} {Q : jPost} (E : E_X6_floor Γ Q) : jSA Γ Q 11 (o_ic (12)) 2 := so_bipush E.2.2.1 rfl dX6_floor_11
theorem oo_X6_floor_13 {Γ : jΓ} {Q : jPost} (E : E_X6_floor Γ Q) : jSA Γ Q 13 (o_call 3 T_X6_isWithin) 3 := so_callS E.2.2.1 gX6_floor_X6_isWithin (by decide +kernel) rfl (by rw [E.2.1]; exact m_X6_isWithin _) (by decide) (by decide) dX6_floor_13
theorem oo_X6_floor_16 {Γ : jΓ} {Q : jPost} (E : E_X6_floor Γ Q) : jSA Γ Q 16 (o_ifne 21) 3 := so_ifne E.2.2.1 (by decide) dX6_floor_16
theorem oo_X6_floor_19 {Γ : jΓ} {Q : jPost} (E : E_X6_floor Γ Q) : jSA Γ Q 19 (o_ic (-1)) 1 := so_iconst E.2.2.1 rfl dX6_floor_19
theorem oo_X6_floor_20 {Γ : jΓ} {Q : jPost} (E : E_X6_floor Γ Q) : jSA Γ Q 20 (o_ireti) 1 := so_ireti E.2.2.1 E.2.2.2 dX6_floor_20
theorem oo_X6_floor_21 {Γ : jΓ} {Q : jPost} (E : E_X6_floor Γ Q) : jSA Γ Q 21 (o_aload 0) 1 := so_aload_n E.2.2.1 rfl dX6_floor_21
theorem oo_X6_floor_22 {Γ : jΓ} {Q : jPost} (E : E_X6_floor Γ Q) : jSA Γ Q 22 (o_getf 6 7) 3 := so_getf (ci := 6) E.2.2.1 wi_X6_floor_X6 (by rw [E.2.1]; rfl) 7 (by decide) wl_X6_floor_67 dX6_floor_22
theorem oo_X6_floor_25 {Γ : jΓ} {Q : jPost} (E : E_X6_floor Γ Q) : jSA Γ Q 25 (o_istore 3) 1 := so_istore_n E.2.2.1 rfl (by rw [E.1]; decide) dX6_floor_25
theorem oo_X6_floor_26 {Γ : jΓ} {Q : jPost} (E : E_X6_floor Γ Q) : jSA Γ Q 26 (o_aload 0) 1 := so_aload_n E.2.2.1 rfl dX6_floor_26
theorem oo_X6_floor_27 {Γ : jΓ} {Q : jPost} (E : E_X6_floor Γ Q) : jSA Γ Q 27 (o_getf 6 0) 3 := so_getf (ci := 6) E.2.2.1 wi_X6_floor_X6 (by rw [E.2.1]; rfl) 0 (by decide) wl_X6_floor_12 dX6_floor_27
theorem oo_X6_floor_30 {Γ : jΓ} {Q : jPost} (E : E_X6_floor Γ Q) : jSA Γ Q 30 (o_iload 1) 1 := so_iload_n E.2.2.1 rfl dX6_floor_30
theorem oo_X6_floor_31 {Γ : jΓ} {Q : jPost} (E : E_X6_floor Γ Q) : jSA Γ Q 31 (o_iload 2) 1 := so_iload_n E.2.2.1 rfl dX6_floor_31
theorem oo_X6_floor_32 {Γ : jΓ} {Q : jPost} (E : E_X6_floor Γ Q) : jSA Γ Q 32 (o_callV 3 1 T_X1_restart) 3 := so_callV E.2.2.1 (ci := 1) (by rw [E.2.1]; rfl) gX6_floor_X1_restart (by decide +kernel) rfl (by rw [E.2.1]; exact m_X1_restart _) (by decide) (by decide) dX6_floor_32
theorem oo_X6_floor_35 {Γ : jΓ} {Q : jPost} (E : E_X6_floor Γ Q) : jSA Γ Q 35 (o_aload 0) 1 := so_aload_n E.2.2.1 rfl dX6_floor_35
theorem oo_X6_floor_36 {Γ : jΓ} {Q : jPost} (E : E_X6_floor Γ Q) : jSA Γ Q 36 (o_getf 6 1) 3 := so_getf (ci := 6) E.2.2.1 wi_X6_floor_X6 (by rw [E.2.1]; rfl) 1 (by decide) wl_X6_floor_19 dX6_floor_36
theorem oo_X6_floor_39 {Γ : jΓ} {Q : jPost} (E : E_X6_floor Γ Q) : jSA Γ Q 39 (o_iload 2) 1 := so_iload_n E.2.2.1 rfl dX6_floor_39
theorem oo_X6_floor_40 {Γ : jΓ} {Q : jPost} (E : E_X6_floor Γ Q) : jSA Γ Q 40 (o_aload 0) 1 := so_aload_n E.2.2.1 rfl dX6_floor_40
theorem oo_X6_floor_41 {Γ : jΓ} {Q : jPost} (E : E_X6_floor Γ Q) : jSA Γ Q 41 (o_getf 6 0) 3 := so_getf (ci := 6) E.2.2.1 wi_X6_floor_X6 (by rw [E.2.1]; rfl) 0 (by decide) wl_X6_floor_12 dX6_floor_41
theorem oo_X6_floor_44 {Γ : jΓ} {Q : jPost} (E : E_X6_floor Γ Q) : jSA Γ Q 44 (o_callV 1 1 T_X1_directions) 3 := so_callV E.2.2.1 (ci := 1) (by rw [E.2.1]; rfl) gX6_floor_X1_directions (by decide +kernel) rfl (by rw [E.2.1]; exact m_X1_directions _) (by decide) (by decide) dX6_floor_44
theorem oo_X6_floor_47 {Γ : jΓ} {Q : jPost} (E : E_X6_floor Γ Q) : jSA Γ Q 47 (o_callV 3 4 T_X4_restart) 3 := so_callV E.2.2.1 (ci := 4) (by rw [E.2.1]; rfl) gX6_floor_X4_restart (by decide +kernel) rfl (by rw [E.2.1]; exact m_X4_restart _) (by decide) (by decide) dX6_floor_47
theorem oo_X6_floor_50 {Γ : jΓ} {Q : jPost} (E : E_X6_floor Γ Q) : jSA Γ Q 50 (o_aload 0) 1 := so_aload_n E.2.2.1 rfl dX6_floor_50
theorem oo_X6_floor_51 {Γ : jΓ} {Q : jPost} (E : E_X6_floor Γ Q) : jSA Γ Q 51 (o_getf 6 4) 3 := so_getf (ci := 6) E.2.2.1 wi_X6_floor_X6 (by rw [E.2.1]; rfl) 4 (by decide) wl_X6_floor_37 dX6_floor_51
theorem oo_X6_floor_54 {Γ : jΓ} {Q : jPost} (E : E_X6_floor Γ Q) : jSA Γ Q 54 (o_callV 1 3 T_X3_forget) 3 := so_callV E.2.2.1 (ci := 3) (by rw [E.2.1]; rfl) gX6_floor_X3_forget (by decide +kernel) rfl (by rw [E.2.1]; exact m_X3_forget _) (by decide) (by decide) dX6_floor_54
theorem oo_X6_floor_57 {Γ : jΓ} {Q : jPost} (E : E_X6_floor Γ Q) : jSA Γ Q 57 (o_aload 0) 1 := so_aload_n E.2.2.1 rfl dX6_floor_57
theorem oo_X6_floor_58 {Γ : jΓ} {Q : jPost} (E : E_X6_floor Γ Q) : jSA Γ Q 58 (o_getf 6 5) 3 := so_getf (ci := 6) E.2.2.1 wi_X6_floor_X6 (by rw [E.2.1]; rfl) 5 (by decide) wl_X6_floor_44 dX6_floor_58
theorem oo_X6_floor_61 {Γ : jΓ} {Q : jPost} (E : E_X6_floor Γ Q) : jSA Γ Q 61 (o_callV 1 2 T_X2_forget) 3 := so_callV E.2.2.1 (ci := 2) (by rw [E.2.1]; rfl) gX6_floor_X2_forget (by decide +kernel) rfl (by rw [E.2.1]; exact m_X2_forget _) (by decide) (by decide) dX6_floor_61
theorem oo_X6_floor_64 {Γ : jΓ} {Q : jPost} (E : E_X6_floor Γ Q) : jSA Γ Q 64 (o_aload 0) 1 := so_aload_n E.2.2.1 rfl dX6_floor_64
theorem oo_X6_floor_65 {Γ : jΓ} {Q : jPost} (E : E_X6_floor Γ Q) : jSA Γ Q 65 (o_ic (0)) 1 := so_iconst E.2.2.1 rfl dX6_floor_65
theorem oo_X6_floor_66 {Γ : jΓ} {Q : jPost} (E : E_X6_floor Γ Q) : jSA Γ Q 66 (o_putf 6 7) 3 := so_putf (ci := 6) E.2.2.1 tyX6 tyX6_ok nmX6 wi_X6_floor_X6 (by rw [E.2.1]; rfl) 7 (by decide) wl_X6_floor_67 rfl (by decide +kernel) dX6_floor_66
theorem oo_X6_floor_69 {Γ : jΓ} {Q : jPost} (E : E_X6_floor Γ Q) : jSA Γ Q 69 (o_aload 0) 1 := so_aload_n E.2.2.1 rfl dX6_floor_69
theorem oo_X6_floor_70 {Γ : jΓ} {Q : jPost} (E : E_X6_floor Γ Q) : jSA Γ Q 70 (o_ic (0)) 1 := so_iconst E.2.2.1 rfl dX6_floor_70
theorem oo_X6_floor_71 {Γ : jΓ} {Q : jPost} (E : E_X6_floor Γ Q) : jSA Γ Q 71 (o_putf 6 8) 3 := so_putf (ci := 6) E.2.2.1 tyX6 tyX6_ok nmX6 wi_X6_floor_X6 (by rw [E.2.1]; rfl) 8 (by decide) wl_X6_floor_76 rfl (by decide +kernel) dX6_floor_71
theorem oo_X6_floor_74 {Γ : jΓ} {Q : jPost} (E : E_X6_floor Γ Q) : jSA Γ Q 74 (o_iload 3) 1 := so_iload_n E.2.2.1 rfl dX6_floor_74
theorem oo_X6_floor_75 {Γ : jΓ} {Q : jPost} (E : E_X6_floor Γ Q) : jSA Γ Q 75 (o_ireti) 1 := so_ireti E.2.2.1 E.2.2.2 dX6_floor_75
theorem ok_X6_floor_0 {Γ : jΓ} {Q : jPost} (E : E_X6_floor Γ Q) : jSS Γ Q 0 sg_X6_floor_0 := ⟨oo_X6_floor_0 E, oo_X6_floor_1 E, oo_X6_floor_2 E, oo_X6_floor_3 E, oo_X6_floor_6 E, oo_X6_floor_9 E, oo_X6_floor_10 E, oo_X6_floor_11 E, oo_X6_floor_13 E, oo_X6_floor_16 E, oo_X6_floor_19 E, oo_X6_floor_20 E, trivial⟩
theorem ok_X6_floor_19 {Γ : jΓ} {Q : jPost} (E : E_X6_floor Γ Q) : jSS Γ Q 19 sg_X6_floor_19 := ⟨oo_X6_floor_19 E, oo_X6_floor_20 E, trivial⟩
theorem ok_X6_floor_21 {Γ : jΓ} {Q : jPost} (E : E_X6_floor Γ Q) : jSS Γ Q 21 sg_X6_floor_21 := ⟨oo_X6_floor_21 E, oo_X6_floor_22 E, oo_X6_floor_25 E, oo_X6_floor_26 E, oo_X6_floor_27 E, oo_X6_floor_30 E, oo_X6_floor_31 E, oo_X6_floor_32 E, oo_X6_floor_35 E, oo_X6_floor_36 E, oo_X6_floor_39 E, oo_X6_floor_40 E, oo_X6_floor_41 E, oo_X6_floor_44 E, oo_X6_floor_47 E, oo_X6_floor_50 E, oo_X6_floor_51 E, oo_X6_floor_54 E, oo_X6_floor_57 E, oo_X6_floor_58 E, oo_X6_floor_61 E, oo_X6_floor_64 E, oo_X6_floor_65 E, oo_X6_floor_66 E, oo_X6_floor_69 E, oo_X6_floor_70 E, oo_X6_floor_71 E, oo_X6_floor_74 E, oo_X6_floor_75 E, trivial⟩
theorem okc_X6_floor {Γ : jΓ} {Q : jPost} (E : E_X6_floor Γ Q) (t : Nat) : jSS Γ Q t (cd_X6_floor t) := by
  unfold cd_X6_floor
  split
  · exact ok_X6_floor_19 E
  · exact ok_X6_floor_21 E
  · trivial
theorem m_X6_floor_of (l : Launch) (hv : ∀ (G : jGt) (Q : jPost) (vs : List Value) (K : List jK) (h : jM), jHd cd_X6_floor G Q sg_X6_floor_0 0 → T_X6_floor vs K h Q → (lg_sl vs).length ≤ 4 ∧ G 0 (jinit vs 4) [] K h 0 0) : jHolds vwCl l yX6_floor wsX6_floor 2 46 0 0 T_X6_floor := by
  refine jMet (cc := cX6_floor) (maxL := 4) (rt := (some .int)) (by decide +kernel) rfl (fun Γ Q vs K h hl hn hcl C hR hT => hv (jG Γ) Q vs K h ?_ hT)
  · exact fun n L st K h ce sl => jwp_ok (okc_X6_floor ⟨hn, hcl, C, hR⟩) n sg_X6_floor_0 0 (ok_X6_floor_0 ⟨hn, hcl, C, hR⟩) L st K h ce sl
set_option maxHeartbeats 4000000 in
set_option maxRecDepth 100000 in
theorem v_X6_floor {G : jGt} {Q : jPost} {K : List jK} {h : jM} {k : Int32} {n : Int32} (hT : jX K ∧ (¬ ((0 ≤ k ∧ k ≤ 1) ∧ 2 ≤ n ∧ n ≤ 12) → Q (some (.int (-1))) K h) ∧ ((0 ≤ k ∧ k ≤ 1) ∧ 2 ≤ n ∧ n ≤ 12 → Q (some (.int (h 0 7))) K (cFloor h k n))) (H0 : jHd cd_X6_floor G Q sg_X6_floor_0 0) : G 0 [some (.ref 0), some (.int k), some (.int n), none] [] K h 0 0 := by
  obtain ⟨hX, hT0, hT1⟩ := hT
  refine H0 80 _ _ _ _ _ _ ?_
  by_cases c1 : 0 ≤ k ∧ k ≤ 1
  · by_cases c2 : 2 ≤ n ∧ n ≤ 12
    · have hT1 := hT1 ⟨c1, c2⟩
      have c3 : (2 : Int) ≤ n.toInt := le_of_lit c2.1
      have c4 : n.toInt ≤ (12 : Int) := le_of_lit c2.2
      have hn : 0 ≤ n.toInt ∧ n.toInt ≤ 12 := by omega
      unfold cFloor at hT1
      simp only [sg_X6_floor_0, sg_X6_floor_19, sg_X6_floor_21, cd_X6_floor, jwp, o_ic, o_lc, o_iload, o_lload, o_aload, o_istore, o_lstore, o_astore, o_iinc, o_pop, o_dup, o_dup2, o_iadd, o_isub, o_imul, o_iand, o_ior, o_ishl, o_ladd, o_lmul, o_land, o_lor, o_idiv, o_irem, o_ineg, o_i2l, o_l2i, o_i2b, o_i2s, o_lushr, o_lshr, o_lshl, o_lcmp, o_ifeq, o_ifne, o_iflt, o_ifge, o_ifgt, o_ifle, o_iceq, o_icne, o_iclt, o_icge, o_icgt, o_icle, o_goto, o_tsw, jsw, o_lsw, jlk, o_getf, o_putf, o_putz, o_iald, o_zald, o_iast, o_zast, o_aald, o_alen, o_gets, o_zld, o_zlen, o_cpy, o_call, o_callV, o_ireti, o_iretz, o_lret, o_vret, jg, js, jkp, jkill, jsp, jcs, jfw, jov, Value.category, Option.toList_some, Option.toList_none, List.nil_append, List.cons_append, List.append_nil, Nat.reduceAdd, true_and, and_true, jb0, jb01, jb1, jem, true_or, or_true, Classical.not_not, forall_const, List.length_cons, List.length_nil, Nat.reduceLeDiff, Nat.zero_le, Nat.reduceLT, and_self, not_true_eq_false, not_false_eq_true, false_imp_iff, true_imp_iff, implies_true, and_false, false_and, or_false, false_or, hX, kx_0_0 hX, kx_0_1 hX, kx_0_2 hX, kx_0_3 hX, kx_0_4 hX, kx_0_5 hX, kx_0_6 hX, kx_0_7 hX, kx_0_8 hX, kxo_0 hX, kx_1_0 hX, kx_1_1 hX, kx_1_2 hX, kx_1_3 hX, kxo_1 hX, kx_4_0 hX, kx_4_1 hX, kx_4_2 hX, kxo_4 hX, kx_19_0 hX, kx_19_1 hX, kx_19_2 hX, kx_19_3 hX, kx_19_4 hX, kxo_19 hX, kx_24_0 hX, kx_24_1 hX, kx_24_2 hX, kx_24_3 hX, kx_24_4 hX, kx_24_5 hX, kx_24_6 hX, kxo_24 hX, kxa_2 hX, kxa_3 hX, kxa_6 hX, kxa_7 hX, kxa_8 hX, kxa_9 hX, kxa_10 hX, kxa_18 hX, kxa_20 hX, kxa_21 hX, kxa_22 hX, kxa_23 hX, kxa_26 hX, kxa_27 hX, kxr_5 hX, kxr_11 hX, kxr_28 hX, T_X6_isWithin, T_X1_restart, T_X1_directions, T_X4_restart, T_X3_forget, T_X2_forget, c1, c2, hn]
      exact hT1
    · have hT0 := hT0 (fun z => c2 z.2)
      simp only [sg_X6_floor_0, sg_X6_floor_19, sg_X6_floor_21, cd_X6_floor, jwp, o_ic, o_lc, o_iload, o_lload, o_aload, o_istore, o_lstore, o_astore, o_iinc, o_pop, o_dup, o_dup2, o_iadd, o_isub, o_imul, o_iand, o_ior, o_ishl, o_ladd, o_lmul, o_land, o_lor, o_idiv, o_irem, o_ineg, o_i2l, o_l2i, o_i2b, o_i2s, o_lushr, o_lshr, o_lshl, o_lcmp, o_ifeq, o_ifne, o_iflt, o_ifge, o_ifgt, o_ifle, o_iceq, o_icne, o_iclt, o_icge, o_icgt, o_icle, o_goto, o_tsw, jsw, o_lsw, jlk, o_getf, o_putf, o_putz, o_iald, o_zald, o_iast, o_zast, o_aald, o_alen, o_gets, o_zld, o_zlen, o_cpy, o_call, o_callV, o_ireti, o_iretz, o_lret, o_vret, jg, js, jkp, jkill, jsp, jcs, jfw, jov, Value.category, Option.toList_some, Option.toList_none, List.nil_append, List.cons_append, List.append_nil, Nat.reduceAdd, true_and, and_true, jb0, jb01, jb1, jem, true_or, or_true, Classical.not_not, forall_const, List.length_cons, List.length_nil, Nat.reduceLeDiff, Nat.zero_le, Nat.reduceLT, and_self, not_true_eq_false, not_false_eq_true, false_imp_iff, true_imp_iff, implies_true, and_false, false_and, or_false, false_or, hX, kx_0_0 hX, kx_0_1 hX, kx_0_2 hX, kx_0_3 hX, kx_0_4 hX, kx_0_5 hX, kx_0_6 hX, kx_0_7 hX, kx_0_8 hX, kxo_0 hX, kx_1_0 hX, kx_1_1 hX, kx_1_2 hX, kx_1_3 hX, kxo_1 hX, kx_4_0 hX, kx_4_1 hX, kx_4_2 hX, kxo_4 hX, kx_19_0 hX, kx_19_1 hX, kx_19_2 hX, kx_19_3 hX, kx_19_4 hX, kxo_19 hX, kx_24_0 hX, kx_24_1 hX, kx_24_2 hX, kx_24_3 hX, kx_24_4 hX, kx_24_5 hX, kx_24_6 hX, kxo_24 hX, kxa_2 hX, kxa_3 hX, kxa_6 hX, kxa_7 hX, kxa_8 hX, kxa_9 hX, kxa_10 hX, kxa_18 hX, kxa_20 hX, kxa_21 hX, kxa_22 hX, kxa_23 hX, kxa_26 hX, kxa_27 hX, kxr_5 hX, kxr_11 hX, kxr_28 hX, T_X6_isWithin, T_X1_restart, T_X1_directions, T_X4_restart, T_X3_forget, T_X2_forget, c1, c2]
      exact hT0
  · have hT0 := hT0 (fun z => c1 z.1)
    simp only [sg_X6_floor_0, sg_X6_floor_19, sg_X6_floor_21, cd_X6_floor, jwp, o_ic, o_lc, o_iload, o_lload, o_aload, o_istore, o_lstore, o_astore, o_iinc, o_pop, o_dup, o_dup2, o_iadd, o_isub, o_imul, o_iand, o_ior, o_ishl, o_ladd, o_lmul, o_land, o_lor, o_idiv, o_irem, o_ineg, o_i2l, o_l2i, o_i2b, o_i2s, o_lushr, o_lshr, o_lshl, o_lcmp, o_ifeq, o_ifne, o_iflt, o_ifge, o_ifgt, o_ifle, o_iceq, o_icne, o_iclt, o_icge, o_icgt, o_icle, o_goto, o_tsw, jsw, o_lsw, jlk, o_getf, o_putf, o_putz, o_iald, o_zald, o_iast, o_zast, o_aald, o_alen, o_gets, o_zld, o_zlen, o_cpy, o_call, o_callV, o_ireti, o_iretz, o_lret, o_vret, jg, js, jkp, jkill, jsp, jcs, jfw, jov, Value.category, Option.toList_some, Option.toList_none, List.nil_append, List.cons_append, List.append_nil, Nat.reduceAdd, true_and, and_true, jb0, jb01, jb1, jem, true_or, or_true, Classical.not_not, forall_const, List.length_cons, List.length_nil, Nat.reduceLeDiff, Nat.zero_le, Nat.reduceLT, and_self, not_true_eq_false, not_false_eq_true, false_imp_iff, true_imp_iff, implies_true, and_false, false_and, or_false, false_or, hX, kx_0_0 hX, kx_0_1 hX, kx_0_2 hX, kx_0_3 hX, kx_0_4 hX, kx_0_5 hX, kx_0_6 hX, kx_0_7 hX, kx_0_8 hX, kxo_0 hX, kx_1_0 hX, kx_1_1 hX, kx_1_2 hX, kx_1_3 hX, kxo_1 hX, kx_4_0 hX, kx_4_1 hX, kx_4_2 hX, kxo_4 hX, kx_19_0 hX, kx_19_1 hX, kx_19_2 hX, kx_19_3 hX, kx_19_4 hX, kxo_19 hX, kx_24_0 hX, kx_24_1 hX, kx_24_2 hX, kx_24_3 hX, kx_24_4 hX, kx_24_5 hX, kx_24_6 hX, kxo_24 hX, kxa_2 hX, kxa_3 hX, kxa_6 hX, kxa_7 hX, kxa_8 hX, kxa_9 hX, kxa_10 hX, kxa_18 hX, kxa_20 hX, kxa_21 hX, kxa_22 hX, kxa_23 hX, kxa_26 hX, kxa_27 hX, kxr_5 hX, kxr_11 hX, kxr_28 hX, T_X6_isWithin, T_X1_restart, T_X1_directions, T_X4_restart, T_X3_forget, T_X2_forget, c1]
    exact hT0
theorem m_X6_floor (l : Launch) : jHolds vwCl l yX6_floor wsX6_floor 2 46 0 0 T_X6_floor := by
  refine m_X6_floor_of l (fun G Q vs K h H0 hT => ?_)
  unfold T_X6_floor at hT
  split at hT
  · obtain ⟨rfl, hT⟩ := hT
    exact ⟨Nat.le_of_ble_eq_true rfl, v_X6_floor hT H0⟩
  · exact hT.elim

/-! X6_type -/
def T_X6_type : jT := fun vs K h Q => match vs with
  | [.ref r0, .long w, .int n] => r0 = 0 ∧ (jX K ∧ (0 ≤ (h 4 2).toInt ∧ (h 4 2).toInt ≤ 12) ∧ (¬ (1 ≤ n ∧ n ≤ 8) → Q (some (.int (-1))) K h) ∧ (1 ≤ n ∧ n ≤ 8 → ¬ h 4 2 + n ≤ 12 → Q (some (.int (-3))) K h) ∧ (1 ≤ n ∧ n ≤ 8 → h 4 2 + n ≤ 12 → Q (some (.int (h 4 2 + n))) K (jtb h w n.toInt.toNat (h 4 2).toInt.toNat 0)))
  | _ => False
def sg_X6_type_0 : jS := [(o_iload 3, 1), (o_ic (1), 1), (o_ic (8), 2), (o_call 3 T_X6_isWithin, 3), (o_ifne 12, 3), (o_ic (-1), 1), (o_ireti, 1)]
def sg_X6_type_12 : jS := [(o_aload 0, 1), (o_getf 6 1, 3), (o_iload 3, 1), (o_callV 2 4 T_X4_hasRoomFor, 3), (o_ifeq 35, 3), (o_aload 0, 1), (o_getf 6 1, 3), (o_lload 1, 1), (o_iload 3, 1), (o_callV 3 4 T_X4_takeBytes, 3), (o_goto 37, 3)]
def sg_X6_type_35 : jS := [(o_ic (-3), 2), (o_ireti, 1)]
def sg_X6_type_37 : jS := [(o_ireti, 1)]
def cd_X6_type : Nat → jS := fun t => match t with
  | 12 => sg_X6_type_12
  | 35 => sg_X6_type_35
  | 37 => sg_X6_type_37
  | _ => []
theorem wl_X6_type_19 : Cond.fieldLink RX6 19 (TX6 1).1 (TX6 1).2.1 (TX6 1).2.2.1 ∈ wsX6_type := by decide +kernel
theorem wi_X6_type_X6 : ∀ w ∈ u_ws RX6 TX6 9, w ∈ wsX6_type := by decide +kernel
def E_X6_type (Γ : jΓ) (Q : jPost) : Prop := Γ.2.2.2.2.2.2.2.2.2.2.1 = 4 ∧ Γ.2.2.2.2.2.2.2.2.2.2.2.1 = vwCl ∧ jC Γ cX6_type RX6 "type" (some .int) wsX6_type 1 24 0 0 ∧ jR Γ Q 0 0
theorem oo_X6_type_0 {Γ : jΓ} {Q : jPost} (E : E_X6_type Γ Q) : jSA Γ Q 0 (o_iload 3) 1 := so_iload_n E.2.2.1 rfl dX6_type_0
theorem oo_X6_type_1 {Γ : jΓ} {Q : jPost} (E : E_X6_type Γ Q) : jSA Γ Q 1 (o_ic (1)) 1 := so_iconst E.2.2.1 rfl dX6_type_1
theorem oo_X6_type_2 {Γ : jΓ} {Q : jPost} (E : E_X6_type Γ Q) : jSA Γ Q 2 (o_ic (8)) 2 := so_bipush E.2.2.1 rfl dX6_type_2
theorem oo_X6_type_4 {Γ : jΓ} {Q : jPost} (E : E_X6_type Γ Q) : jSA Γ Q 4 (o_call 3 T_X6_isWithin) 3 := so_callS E.2.2.1 gX6_type_X6_isWithin (by decide +kernel) rfl (by rw [E.2.1]; exact m_X6_isWithin _) (by decide) (by decide) dX6_type_4
theorem oo_X6_type_7 {Γ : jΓ} {Q : jPost} (E : E_X6_type Γ Q) : jSA Γ Q 7 (o_ifne 12) 3 := so_ifne E.2.2.1 (by decide) dX6_type_7
theorem oo_X6_type_10 {Γ : jΓ} {Q : jPost} (E : E_X6_type Γ Q) : jSA Γ Q 10 (o_ic (-1)) 1 := so_iconst E.2.2.1 rfl dX6_type_10
theorem oo_X6_type_11 {Γ : jΓ} {Q : jPost} (E : E_X6_type Γ Q) : jSA Γ Q 11 (o_ireti) 1 := so_ireti E.2.2.1 E.2.2.2 dX6_type_11
theorem oo_X6_type_12 {Γ : jΓ} {Q : jPost} (E : E_X6_type Γ Q) : jSA Γ Q 12 (o_aload 0) 1 := so_aload_n E.2.2.1 rfl dX6_type_12
theorem oo_X6_type_13 {Γ : jΓ} {Q : jPost} (E : E_X6_type Γ Q) : jSA Γ Q 13 (o_getf 6 1) 3 := so_getf (ci := 6) E.2.2.1 wi_X6_type_X6 (by rw [E.2.1]; rfl) 1 (by decide) wl_X6_type_19 dX6_type_13
theorem oo_X6_type_16 {Γ : jΓ} {Q : jPost} (E : E_X6_type Γ Q) : jSA Γ Q 16 (o_iload 3) 1 := so_iload_n E.2.2.1 rfl dX6_type_16
theorem oo_X6_type_17 {Γ : jΓ} {Q : jPost} (E : E_X6_type Γ Q) : jSA Γ Q 17 (o_callV 2 4 T_X4_hasRoomFor) 3 := so_callV E.2.2.1 (ci := 4) (by rw [E.2.1]; rfl) gX6_type_X4_hasRoomFor (by decide +kernel) rfl (by rw [E.2.1]; exact m_X4_hasRoomFor _) (by decide) (by decide) dX6_type_17
theorem oo_X6_type_20 {Γ : jΓ} {Q : jPost} (E : E_X6_type Γ Q) : jSA Γ Q 20 (o_ifeq 35) 3 := so_ifeq E.2.2.1 (by decide) dX6_type_20
theorem oo_X6_type_23 {Γ : jΓ} {Q : jPost} (E : E_X6_type Γ Q) : jSA Γ Q 23 (o_aload 0) 1 := so_aload_n E.2.2.1 rfl dX6_type_23
theorem oo_X6_type_24 {Γ : jΓ} {Q : jPost} (E : E_X6_type Γ Q) : jSA Γ Q 24 (o_getf 6 1) 3 := so_getf (ci := 6) E.2.2.1 wi_X6_type_X6 (by rw [E.2.1]; rfl) 1 (by decide) wl_X6_type_19 dX6_type_24
theorem oo_X6_type_27 {Γ : jΓ} {Q : jPost} (E : E_X6_type Γ Q) : jSA Γ Q 27 (o_lload 1) 1 := so_lload_n E.2.2.1 rfl dX6_type_27
theorem oo_X6_type_28 {Γ : jΓ} {Q : jPost} (E : E_X6_type Γ Q) : jSA Γ Q 28 (o_iload 3) 1 := so_iload_n E.2.2.1 rfl dX6_type_28
theorem oo_X6_type_29 {Γ : jΓ} {Q : jPost} (E : E_X6_type Γ Q) : jSA Γ Q 29 (o_callV 3 4 T_X4_takeBytes) 3 := so_callV E.2.2.1 (ci := 4) (by rw [E.2.1]; rfl) gX6_type_X4_takeBytes (by decide +kernel) rfl (by rw [E.2.1]; exact m_X4_takeBytes _) (by decide) (by decide) dX6_type_29
theorem oo_X6_type_32 {Γ : jΓ} {Q : jPost} (E : E_X6_type Γ Q) : jSA Γ Q 32 (o_goto 37) 3 := so_goto E.2.2.1 (by decide) dX6_type_32
theorem oo_X6_type_35 {Γ : jΓ} {Q : jPost} (E : E_X6_type Γ Q) : jSA Γ Q 35 (o_ic (-3)) 2 := so_bipush E.2.2.1 rfl dX6_type_35
theorem oo_X6_type_37 {Γ : jΓ} {Q : jPost} (E : E_X6_type Γ Q) : jSA Γ Q 37 (o_ireti) 1 := so_ireti E.2.2.1 E.2.2.2 dX6_type_37
theorem ok_X6_type_0 {Γ : jΓ} {Q : jPost} (E : E_X6_type Γ Q) : jSS Γ Q 0 sg_X6_type_0 := ⟨oo_X6_type_0 E, oo_X6_type_1 E, oo_X6_type_2 E, oo_X6_type_4 E, oo_X6_type_7 E, oo_X6_type_10 E, oo_X6_type_11 E, trivial⟩
theorem ok_X6_type_12 {Γ : jΓ} {Q : jPost} (E : E_X6_type Γ Q) : jSS Γ Q 12 sg_X6_type_12 := ⟨oo_X6_type_12 E, oo_X6_type_13 E, oo_X6_type_16 E, oo_X6_type_17 E, oo_X6_type_20 E, oo_X6_type_23 E, oo_X6_type_24 E, oo_X6_type_27 E, oo_X6_type_28 E, oo_X6_type_29 E, oo_X6_type_32 E, trivial⟩
theorem ok_X6_type_35 {Γ : jΓ} {Q : jPost} (E : E_X6_type Γ Q) : jSS Γ Q 35 sg_X6_type_35 := ⟨oo_X6_type_35 E, oo_X6_type_37 E, trivial⟩
theorem ok_X6_type_37 {Γ : jΓ} {Q : jPost} (E : E_X6_type Γ Q) : jSS Γ Q 37 sg_X6_type_37 := ⟨oo_X6_type_37 E, trivial⟩
theorem okc_X6_type {Γ : jΓ} {Q : jPost} (E : E_X6_type Γ Q) (t : Nat) : jSS Γ Q t (cd_X6_type t) := by
  unfold cd_X6_type
  split
  · exact ok_X6_type_12 E
  · exact ok_X6_type_35 E
  · exact ok_X6_type_37 E
  · trivial
theorem m_X6_type_of (l : Launch) (hv : ∀ (G : jGt) (Q : jPost) (vs : List Value) (K : List jK) (h : jM), jHd cd_X6_type G Q sg_X6_type_0 0 → T_X6_type vs K h Q → (lg_sl vs).length ≤ 4 ∧ G 0 (jinit vs 4) [] K h 0 0) : jHolds vwCl l yX6_type wsX6_type 1 24 0 0 T_X6_type := by
  refine jMet (cc := cX6_type) (maxL := 4) (rt := (some .int)) (by decide +kernel) rfl (fun Γ Q vs K h hl hn hcl C hR hT => hv (jG Γ) Q vs K h ?_ hT)
  · exact fun n L st K h ce sl => jwp_ok (okc_X6_type ⟨hn, hcl, C, hR⟩) n sg_X6_type_0 0 (ok_X6_type_0 ⟨hn, hcl, C, hR⟩) L st K h ce sl
set_option maxHeartbeats 4000000 in
set_option maxRecDepth 100000 in
theorem v_X6_type {G : jGt} {Q : jPost} {K : List jK} {h : jM} {w : Int64} {n : Int32} (hT : jX K ∧ (0 ≤ (h 4 2).toInt ∧ (h 4 2).toInt ≤ 12) ∧ (¬ (1 ≤ n ∧ n ≤ 8) → Q (some (.int (-1))) K h) ∧ (1 ≤ n ∧ n ≤ 8 → ¬ h 4 2 + n ≤ 12 → Q (some (.int (-3))) K h) ∧ (1 ≤ n ∧ n ≤ 8 → h 4 2 + n ≤ 12 → Q (some (.int (h 4 2 + n))) K (jtb h w n.toInt.toNat (h 4 2).toInt.toNat 0))) (H0 : jHd cd_X6_type G Q sg_X6_type_0 0) : G 0 [some (.ref 0), some (.long w), none, some (.int n)] [] K h 0 0 := by
  obtain ⟨hX, ⟨ht0, ht1⟩, hT0, hT1, hT2⟩ := hT
  refine H0 80 _ _ _ _ _ _ ?_
  by_cases c1 : 1 ≤ n ∧ n ≤ 8
  · have c3 : (1 : Int) ≤ n.toInt := le_of_lit c1.1
    have c4 : n.toInt ≤ (8 : Int) := le_of_lit c1.2
    by_cases c2 : h 4 2 + n ≤ 12
    · have hT2 := hT2 c1 c2
      have e : (h 4 2 + n).toInt = (h 4 2).toInt + n.toInt := ti_add (by omega) (by omega)
      have c5 : (h 4 2 + n).toInt ≤ (12 : Int) := le_of_lit c2
      rw [e] at c5
      simp only [sg_X6_type_0, sg_X6_type_12, sg_X6_type_35, sg_X6_type_37, cd_X6_type, jwp, o_ic, o_lc, o_iload, o_lload, o_aload, o_istore, o_lstore, o_astore, o_iinc, o_pop, o_dup, o_dup2, o_iadd, o_isub, o_imul, o_iand, o_ior, o_ishl, o_ladd, o_lmul, o_land, o_lor, o_idiv, o_irem, o_ineg, o_i2l, o_l2i, o_i2b, o_i2s, o_lushr, o_lshr, o_lshl, o_lcmp, o_ifeq, o_ifne, o_iflt, o_ifge, o_ifgt, o_ifle, o_iceq, o_icne, o_iclt, o_icge, o_icgt, o_icle, o_goto, o_tsw, jsw, o_lsw, jlk, o_getf, o_putf, o_putz, o_iald, o_zald, o_iast, o_zast, o_aald, o_alen, o_gets, o_zld, o_zlen, o_cpy, o_call, o_callV, o_ireti, o_iretz, o_lret, o_vret, jg, js, jkp, jkill, jsp, jcs, jfw, jov, Value.category, Option.toList_some, Option.toList_none, List.nil_append, List.cons_append, List.append_nil, Nat.reduceAdd, true_and, and_true, jb0, jb01, jb1, jem, true_or, or_true, Classical.not_not, forall_const, List.length_cons, List.length_nil, Nat.reduceLeDiff, Nat.zero_le, Nat.reduceLT, and_self, not_true_eq_false, not_false_eq_true, false_imp_iff, true_imp_iff, implies_true, and_false, false_and, or_false, false_or, hX, kx_0_0 hX, kx_0_1 hX, kx_0_2 hX, kx_0_3 hX, kx_0_4 hX, kx_0_5 hX, kx_0_6 hX, kx_0_7 hX, kx_0_8 hX, kxo_0 hX, kx_1_0 hX, kx_1_1 hX, kx_1_2 hX, kx_1_3 hX, kxo_1 hX, kx_4_0 hX, kx_4_1 hX, kx_4_2 hX, kxo_4 hX, kx_19_0 hX, kx_19_1 hX, kx_19_2 hX, kx_19_3 hX, kx_19_4 hX, kxo_19 hX, kx_24_0 hX, kx_24_1 hX, kx_24_2 hX, kx_24_3 hX, kx_24_4 hX, kx_24_5 hX, kx_24_6 hX, kxo_24 hX, kxa_2 hX, kxa_3 hX, kxa_6 hX, kxa_7 hX, kxa_8 hX, kxa_9 hX, kxa_10 hX, kxa_18 hX, kxa_20 hX, kxa_21 hX, kxa_22 hX, kxa_23 hX, kxa_26 hX, kxa_27 hX, kxr_5 hX, kxr_11 hX, kxr_28 hX, T_X6_isWithin, T_X4_hasRoomFor, T_X4_takeBytes, c1, c2, c3, c4, c5, ht0]
      exact hT2
    · have hT1 := hT1 c1 c2
      simp only [sg_X6_type_0, sg_X6_type_12, sg_X6_type_35, sg_X6_type_37, cd_X6_type, jwp, o_ic, o_lc, o_iload, o_lload, o_aload, o_istore, o_lstore, o_astore, o_iinc, o_pop, o_dup, o_dup2, o_iadd, o_isub, o_imul, o_iand, o_ior, o_ishl, o_ladd, o_lmul, o_land, o_lor, o_idiv, o_irem, o_ineg, o_i2l, o_l2i, o_i2b, o_i2s, o_lushr, o_lshr, o_lshl, o_lcmp, o_ifeq, o_ifne, o_iflt, o_ifge, o_ifgt, o_ifle, o_iceq, o_icne, o_iclt, o_icge, o_icgt, o_icle, o_goto, o_tsw, jsw, o_lsw, jlk, o_getf, o_putf, o_putz, o_iald, o_zald, o_iast, o_zast, o_aald, o_alen, o_gets, o_zld, o_zlen, o_cpy, o_call, o_callV, o_ireti, o_iretz, o_lret, o_vret, jg, js, jkp, jkill, jsp, jcs, jfw, jov, Value.category, Option.toList_some, Option.toList_none, List.nil_append, List.cons_append, List.append_nil, Nat.reduceAdd, true_and, and_true, jb0, jb01, jb1, jem, true_or, or_true, Classical.not_not, forall_const, List.length_cons, List.length_nil, Nat.reduceLeDiff, Nat.zero_le, Nat.reduceLT, and_self, not_true_eq_false, not_false_eq_true, false_imp_iff, true_imp_iff, implies_true, and_false, false_and, or_false, false_or, hX, kx_0_0 hX, kx_0_1 hX, kx_0_2 hX, kx_0_3 hX, kx_0_4 hX, kx_0_5 hX, kx_0_6 hX, kx_0_7 hX, kx_0_8 hX, kxo_0 hX, kx_1_0 hX, kx_1_1 hX, kx_1_2 hX, kx_1_3 hX, kxo_1 hX, kx_4_0 hX, kx_4_1 hX, kx_4_2 hX, kxo_4 hX, kx_19_0 hX, kx_19_1 hX, kx_19_2 hX, kx_19_3 hX, kx_19_4 hX, kxo_19 hX, kx_24_0 hX, kx_24_1 hX, kx_24_2 hX, kx_24_3 hX, kx_24_4 hX, kx_24_5 hX, kx_24_6 hX, kxo_24 hX, kxa_2 hX, kxa_3 hX, kxa_6 hX, kxa_7 hX, kxa_8 hX, kxa_9 hX, kxa_10 hX, kxa_18 hX, kxa_20 hX, kxa_21 hX, kxa_22 hX, kxa_23 hX, kxa_26 hX, kxa_27 hX, kxr_5 hX, kxr_11 hX, kxr_28 hX, T_X6_isWithin, T_X4_hasRoomFor, T_X4_takeBytes, c1, c2]
      exact hT1
  · have hT0 := hT0 c1
    simp only [sg_X6_type_0, sg_X6_type_12, sg_X6_type_35, sg_X6_type_37, cd_X6_type, jwp, o_ic, o_lc, o_iload, o_lload, o_aload, o_istore, o_lstore, o_astore, o_iinc, o_pop, o_dup, o_dup2, o_iadd, o_isub, o_imul, o_iand, o_ior, o_ishl, o_ladd, o_lmul, o_land, o_lor, o_idiv, o_irem, o_ineg, o_i2l, o_l2i, o_i2b, o_i2s, o_lushr, o_lshr, o_lshl, o_lcmp, o_ifeq, o_ifne, o_iflt, o_ifge, o_ifgt, o_ifle, o_iceq, o_icne, o_iclt, o_icge, o_icgt, o_icle, o_goto, o_tsw, jsw, o_lsw, jlk, o_getf, o_putf, o_putz, o_iald, o_zald, o_iast, o_zast, o_aald, o_alen, o_gets, o_zld, o_zlen, o_cpy, o_call, o_callV, o_ireti, o_iretz, o_lret, o_vret, jg, js, jkp, jkill, jsp, jcs, jfw, jov, Value.category, Option.toList_some, Option.toList_none, List.nil_append, List.cons_append, List.append_nil, Nat.reduceAdd, true_and, and_true, jb0, jb01, jb1, jem, true_or, or_true, Classical.not_not, forall_const, List.length_cons, List.length_nil, Nat.reduceLeDiff, Nat.zero_le, Nat.reduceLT, and_self, not_true_eq_false, not_false_eq_true, false_imp_iff, true_imp_iff, implies_true, and_false, false_and, or_false, false_or, hX, kx_0_0 hX, kx_0_1 hX, kx_0_2 hX, kx_0_3 hX, kx_0_4 hX, kx_0_5 hX, kx_0_6 hX, kx_0_7 hX, kx_0_8 hX, kxo_0 hX, kx_1_0 hX, kx_1_1 hX, kx_1_2 hX, kx_1_3 hX, kxo_1 hX, kx_4_0 hX, kx_4_1 hX, kx_4_2 hX, kxo_4 hX, kx_19_0 hX, kx_19_1 hX, kx_19_2 hX, kx_19_3 hX, kx_19_4 hX, kxo_19 hX, kx_24_0 hX, kx_24_1 hX, kx_24_2 hX, kx_24_3 hX, kx_24_4 hX, kx_24_5 hX, kx_24_6 hX, kxo_24 hX, kxa_2 hX, kxa_3 hX, kxa_6 hX, kxa_7 hX, kxa_8 hX, kxa_9 hX, kxa_10 hX, kxa_18 hX, kxa_20 hX, kxa_21 hX, kxa_22 hX, kxa_23 hX, kxa_26 hX, kxa_27 hX, kxr_5 hX, kxr_11 hX, kxr_28 hX, T_X6_isWithin, T_X4_hasRoomFor, T_X4_takeBytes, c1]
    exact hT0
theorem m_X6_type (l : Launch) : jHolds vwCl l yX6_type wsX6_type 1 24 0 0 T_X6_type := by
  refine m_X6_type_of l (fun G Q vs K h H0 hT => ?_)
  unfold T_X6_type at hT
  split at hT
  · obtain ⟨rfl, hT⟩ := hT
    exact ⟨Nat.le_of_ble_eq_true rfl, v_X6_type hT H0⟩
  · exact hT.elim

/-! X6_rule -/
def T_X6_rule : jT := fun vs K h Q => match vs with
  | [.ref r0, .int r] => r0 = 0 ∧ (jX K ∧ (0 ≤ (h 4 2).toInt ∧ (h 4 2).toInt ≤ 12) ∧ (¬ (0 ≤ r ∧ r ≤ 3) → Q (some (.int (-1))) K h) ∧ (0 ≤ r ∧ r ≤ 3 → ¬ jfits h (h 1 1) (jdirs h) → Q (some (.int (-2))) K (up2 h 4 2 0)) ∧ (0 ≤ r ∧ r ≤ 3 → jfits h (h 1 1) (jdirs h) → Q (some (.int (h 1 1))) K (up2 (up2 (jset h True r.toNatClampNeg (jdirs h) (h 4 2).toInt.toNat) 4 2 0) 24 1 1)))
  | _ => False
def sg_X6_rule_0 : jS := [(o_iload 1, 1), (o_call 1 T_X6_isRule, 3), (o_ifne 9, 3), (o_ic (-1), 1), (o_ireti, 1)]
def sg_X6_rule_9 : jS := [(o_aload 0, 1), (o_getf 6 1, 3), (o_iload 1, 1), (o_aload 0, 1), (o_getf 6 0, 3), (o_getf 1 1, 3), (o_aload 0, 1), (o_getf 6 0, 3), (o_callV 1 1 T_X1_directions, 3), (o_callV 4 4 T_X4_setFromTape, 3), (o_ifne 37, 3), (o_ic (-2), 2), (o_ireti, 1)]
def sg_X6_rule_37 : jS := [(o_aload 0, 1), (o_getf 6 5, 3), (o_callV 1 2 T_X2_spoil, 3), (o_aload 0, 1), (o_getf 6 0, 3), (o_getf 1 1, 3), (o_ireti, 1)]
def cd_X6_rule : Nat → jS := fun t => match t with
  | 9 => sg_X6_rule_9
  | 37 => sg_X6_rule_37
  | _ => []
theorem wl_X6_rule_12 : Cond.fieldLink RX6 12 (TX6 0).1 (TX6 0).2.1 (TX6 0).2.2.1 ∈ wsX6_rule := by decide +kernel
theorem wl_X6_rule_19 : Cond.fieldLink RX6 19 (TX6 1).1 (TX6 1).2.1 (TX6 1).2.2.1 ∈ wsX6_rule := by decide +kernel
theorem wl_X6_rule_44 : Cond.fieldLink RX6 44 (TX6 5).1 (TX6 5).2.1 (TX6 5).2.2.1 ∈ wsX6_rule := by decide +kernel
theorem wl_X6_rule_90 : Cond.fieldLink RX6 90 (TX1 1).1 (TX1 1).2.1 (TX1 1).2.2.1 ∈ wsX6_rule := by decide +kernel
theorem wi_X6_rule_X1 : ∀ w ∈ u_ws RX1 TX1 4, w ∈ wsX6_rule := by decide +kernel
theorem wi_X6_rule_X6 : ∀ w ∈ u_ws RX6 TX6 9, w ∈ wsX6_rule := by decide +kernel
def E_X6_rule (Γ : jΓ) (Q : jPost) : Prop := Γ.2.2.2.2.2.2.2.2.2.2.1 = 2 ∧ Γ.2.2.2.2.2.2.2.2.2.2.2.1 = vwCl ∧ jC Γ cX6_rule RX6 "rule" (some .int) wsX6_rule 2 47 0 0 ∧ jR Γ Q 0 0
theorem oo_X6_rule_0 {Γ : jΓ} {Q : jPost} (E : E_X6_rule Γ Q) : jSA Γ Q 0 (o_iload 1) 1 := so_iload_n E.2.2.1 rfl dX6_rule_0
theorem oo_X6_rule_1 {Γ : jΓ} {Q : jPost} (E : E_X6_rule Γ Q) : jSA Γ Q 1 (o_call 1 T_X6_isRule) 3 := so_callS E.2.2.1 gX6_rule_X6_isRule (by decide +kernel) rfl (by rw [E.2.1]; exact m_X6_isRule _) (by decide) (by decide) dX6_rule_1
theorem oo_X6_rule_4 {Γ : jΓ} {Q : jPost} (E : E_X6_rule Γ Q) : jSA Γ Q 4 (o_ifne 9) 3 := so_ifne E.2.2.1 (by decide) dX6_rule_4
theorem oo_X6_rule_7 {Γ : jΓ} {Q : jPost} (E : E_X6_rule Γ Q) : jSA Γ Q 7 (o_ic (-1)) 1 := so_iconst E.2.2.1 rfl dX6_rule_7
theorem oo_X6_rule_8 {Γ : jΓ} {Q : jPost} (E : E_X6_rule Γ Q) : jSA Γ Q 8 (o_ireti) 1 := so_ireti E.2.2.1 E.2.2.2 dX6_rule_8
theorem oo_X6_rule_9 {Γ : jΓ} {Q : jPost} (E : E_X6_rule Γ Q) : jSA Γ Q 9 (o_aload 0) 1 := so_aload_n E.2.2.1 rfl dX6_rule_9
theorem oo_X6_rule_10 {Γ : jΓ} {Q : jPost} (E : E_X6_rule Γ Q) : jSA Γ Q 10 (o_getf 6 1) 3 := so_getf (ci := 6) E.2.2.1 wi_X6_rule_X6 (by rw [E.2.1]; rfl) 1 (by decide) wl_X6_rule_19 dX6_rule_10
theorem oo_X6_rule_13 {Γ : jΓ} {Q : jPost} (E : E_X6_rule Γ Q) : jSA Γ Q 13 (o_iload 1) 1 := so_iload_n E.2.2.1 rfl dX6_rule_13
theorem oo_X6_rule_14 {Γ : jΓ} {Q : jPost} (E : E_X6_rule Γ Q) : jSA Γ Q 14 (o_aload 0) 1 := so_aload_n E.2.2.1 rfl dX6_rule_14
theorem oo_X6_rule_15 {Γ : jΓ} {Q : jPost} (E : E_X6_rule Γ Q) : jSA Γ Q 15 (o_getf 6 0) 3 := so_getf (ci := 6) E.2.2.1 wi_X6_rule_X6 (by rw [E.2.1]; rfl) 0 (by decide) wl_X6_rule_12 dX6_rule_15
theorem oo_X6_rule_18 {Γ : jΓ} {Q : jPost} (E : E_X6_rule Γ Q) : jSA Γ Q 18 (o_getf 1 1) 3 := so_getf (ci := 1) E.2.2.1 wi_X6_rule_X1 (by rw [E.2.1]; rfl) 1 (by decide) wl_X6_rule_90 dX6_rule_18
theorem oo_X6_rule_21 {Γ : jΓ} {Q : jPost} (E : E_X6_rule Γ Q) : jSA Γ Q 21 (o_aload 0) 1 := so_aload_n E.2.2.1 rfl dX6_rule_21
theorem oo_X6_rule_22 {Γ : jΓ} {Q : jPost} (E : E_X6_rule Γ Q) : jSA Γ Q 22 (o_getf 6 0) 3 := so_getf (ci := 6) E.2.2.1 wi_X6_rule_X6 (by rw [E.2.1]; rfl) 0 (by decide) wl_X6_rule_12 dX6_rule_22
theorem oo_X6_rule_25 {Γ : jΓ} {Q : jPost} (E : E_X6_rule Γ Q) : jSA Γ Q 25 (o_callV 1 1 T_X1_directions) 3 := so_callV E.2.2.1 (ci := 1) (by rw [E.2.1]; rfl) gX6_rule_X1_directions (by decide +kernel) rfl (by rw [E.2.1]; exact m_X1_directions _) (by decide) (by decide) dX6_rule_25
theorem oo_X6_rule_28 {Γ : jΓ} {Q : jPost} (E : E_X6_rule Γ Q) : jSA Γ Q 28 (o_callV 4 4 T_X4_setFromTape) 3 := so_callV E.2.2.1 (ci := 4) (by rw [E.2.1]; rfl) gX6_rule_X4_setFromTape (by decide +kernel) rfl (by rw [E.2.1]; exact m_X4_setFromTape _) (by decide) (by decide) dX6_rule_28
theorem oo_X6_rule_31 {Γ : jΓ} {Q : jPost} (E : E_X6_rule Γ Q) : jSA Γ Q 31 (o_ifne 37) 3 := so_ifne E.2.2.1 (by decide) dX6_rule_31
theorem oo_X6_rule_34 {Γ : jΓ} {Q : jPost} (E : E_X6_rule Γ Q) : jSA Γ Q 34 (o_ic (-2)) 2 := so_bipush E.2.2.1 rfl dX6_rule_34
theorem oo_X6_rule_36 {Γ : jΓ} {Q : jPost} (E : E_X6_rule Γ Q) : jSA Γ Q 36 (o_ireti) 1 := so_ireti E.2.2.1 E.2.2.2 dX6_rule_36
theorem oo_X6_rule_37 {Γ : jΓ} {Q : jPost} (E : E_X6_rule Γ Q) : jSA Γ Q 37 (o_aload 0) 1 := so_aload_n E.2.2.1 rfl dX6_rule_37
theorem oo_X6_rule_38 {Γ : jΓ} {Q : jPost} (E : E_X6_rule Γ Q) : jSA Γ Q 38 (o_getf 6 5) 3 := so_getf (ci := 6) E.2.2.1 wi_X6_rule_X6 (by rw [E.2.1]; rfl) 5 (by decide) wl_X6_rule_44 dX6_rule_38
theorem oo_X6_rule_41 {Γ : jΓ} {Q : jPost} (E : E_X6_rule Γ Q) : jSA Γ Q 41 (o_callV 1 2 T_X2_spoil) 3 := so_callV E.2.2.1 (ci := 2) (by rw [E.2.1]; rfl) gX6_rule_X2_spoil (by decide +kernel) rfl (by rw [E.2.1]; exact m_X2_spoil _) (by decide) (by decide) dX6_rule_41
theorem oo_X6_rule_44 {Γ : jΓ} {Q : jPost} (E : E_X6_rule Γ Q) : jSA Γ Q 44 (o_aload 0) 1 := so_aload_n E.2.2.1 rfl dX6_rule_44
theorem oo_X6_rule_45 {Γ : jΓ} {Q : jPost} (E : E_X6_rule Γ Q) : jSA Γ Q 45 (o_getf 6 0) 3 := so_getf (ci := 6) E.2.2.1 wi_X6_rule_X6 (by rw [E.2.1]; rfl) 0 (by decide) wl_X6_rule_12 dX6_rule_45
theorem oo_X6_rule_48 {Γ : jΓ} {Q : jPost} (E : E_X6_rule Γ Q) : jSA Γ Q 48 (o_getf 1 1) 3 := so_getf (ci := 1) E.2.2.1 wi_X6_rule_X1 (by rw [E.2.1]; rfl) 1 (by decide) wl_X6_rule_90 dX6_rule_48
theorem oo_X6_rule_51 {Γ : jΓ} {Q : jPost} (E : E_X6_rule Γ Q) : jSA Γ Q 51 (o_ireti) 1 := so_ireti E.2.2.1 E.2.2.2 dX6_rule_51
theorem ok_X6_rule_0 {Γ : jΓ} {Q : jPost} (E : E_X6_rule Γ Q) : jSS Γ Q 0 sg_X6_rule_0 := ⟨oo_X6_rule_0 E, oo_X6_rule_1 E, oo_X6_rule_4 E, oo_X6_rule_7 E, oo_X6_rule_8 E, trivial⟩
theorem ok_X6_rule_9 {Γ : jΓ} {Q : jPost} (E : E_X6_rule Γ Q) : jSS Γ Q 9 sg_X6_rule_9 := ⟨oo_X6_rule_9 E, oo_X6_rule_10 E, oo_X6_rule_13 E, oo_X6_rule_14 E, oo_X6_rule_15 E, oo_X6_rule_18 E, oo_X6_rule_21 E, oo_X6_rule_22 E, oo_X6_rule_25 E, oo_X6_rule_28 E, oo_X6_rule_31 E, oo_X6_rule_34 E, oo_X6_rule_36 E, trivial⟩
theorem ok_X6_rule_37 {Γ : jΓ} {Q : jPost} (E : E_X6_rule Γ Q) : jSS Γ Q 37 sg_X6_rule_37 := ⟨oo_X6_rule_37 E, oo_X6_rule_38 E, oo_X6_rule_41 E, oo_X6_rule_44 E, oo_X6_rule_45 E, oo_X6_rule_48 E, oo_X6_rule_51 E, trivial⟩
theorem okc_X6_rule {Γ : jΓ} {Q : jPost} (E : E_X6_rule Γ Q) (t : Nat) : jSS Γ Q t (cd_X6_rule t) := by
  unfold cd_X6_rule
  split
  · exact ok_X6_rule_9 E
  · exact ok_X6_rule_37 E
  · trivial
theorem m_X6_rule_of (l : Launch) (hv : ∀ (G : jGt) (Q : jPost) (vs : List Value) (K : List jK) (h : jM), jHd cd_X6_rule G Q sg_X6_rule_0 0 → T_X6_rule vs K h Q → (lg_sl vs).length ≤ 2 ∧ G 0 (jinit vs 2) [] K h 0 0) : jHolds vwCl l yX6_rule wsX6_rule 2 47 0 0 T_X6_rule := by
  refine jMet (cc := cX6_rule) (maxL := 2) (rt := (some .int)) (by decide +kernel) rfl (fun Γ Q vs K h hl hn hcl C hR hT => hv (jG Γ) Q vs K h ?_ hT)
  · exact fun n L st K h ce sl => jwp_ok (okc_X6_rule ⟨hn, hcl, C, hR⟩) n sg_X6_rule_0 0 (ok_X6_rule_0 ⟨hn, hcl, C, hR⟩) L st K h ce sl
set_option maxHeartbeats 4000000 in
set_option maxRecDepth 100000 in
theorem v_X6_rule {G : jGt} {Q : jPost} {K : List jK} {h : jM} {r : Int32} (hT : jX K ∧ (0 ≤ (h 4 2).toInt ∧ (h 4 2).toInt ≤ 12) ∧ (¬ (0 ≤ r ∧ r ≤ 3) → Q (some (.int (-1))) K h) ∧ (0 ≤ r ∧ r ≤ 3 → ¬ jfits h (h 1 1) (jdirs h) → Q (some (.int (-2))) K (up2 h 4 2 0)) ∧ (0 ≤ r ∧ r ≤ 3 → jfits h (h 1 1) (jdirs h) → Q (some (.int (h 1 1))) K (up2 (up2 (jset h True r.toNatClampNeg (jdirs h) (h 4 2).toInt.toNat) 4 2 0) 24 1 1))) (H0 : jHd cd_X6_rule G Q sg_X6_rule_0 0) : G 0 [some (.ref 0), some (.int r)] [] K h 0 0 := by
  obtain ⟨hX, ⟨ht0, ht1⟩, hT0, hT1, hT2⟩ := hT
  refine H0 80 _ _ _ _ _ _ ?_
  by_cases c1 : 0 ≤ r ∧ r ≤ 3
  · obtain ⟨j, hj, rfl⟩ := sh_of c1
    have hv : vp_in (nI j) 4 := vp_in_nI hj (by decide)
    have hj31 : j < 2147483648 := by omega
    by_cases c2 : jfits h (h 1 1) (jdirs h)
    · have hT2 := hT2 c1 c2
      rw [nI_clamp hj31] at hT2
      have e11 : up2 (jset h True j (jdirs h) (h 4 2).toInt.toNat) 4 2 0 1 1 = h 1 1 := by
        rw [up2_n (by decide), jset_o _ _ _ _ _ (by omega)]
      simp only [sg_X6_rule_0, sg_X6_rule_9, sg_X6_rule_37, cd_X6_rule, jwp, o_ic, o_lc, o_iload, o_lload, o_aload, o_istore, o_lstore, o_astore, o_iinc, o_pop, o_dup, o_dup2, o_iadd, o_isub, o_imul, o_iand, o_ior, o_ishl, o_ladd, o_lmul, o_land, o_lor, o_idiv, o_irem, o_ineg, o_i2l, o_l2i, o_i2b, o_i2s, o_lushr, o_lshr, o_lshl, o_lcmp, o_ifeq, o_ifne, o_iflt, o_ifge, o_ifgt, o_ifle, o_iceq, o_icne, o_iclt, o_icge, o_icgt, o_icle, o_goto, o_tsw, jsw, o_lsw, jlk, o_getf, o_putf, o_putz, o_iald, o_zald, o_iast, o_zast, o_aald, o_alen, o_gets, o_zld, o_zlen, o_cpy, o_call, o_callV, o_ireti, o_iretz, o_lret, o_vret, jg, js, jkp, jkill, jsp, jcs, jfw, jov, Value.category, Option.toList_some, Option.toList_none, List.nil_append, List.cons_append, List.append_nil, Nat.reduceAdd, true_and, and_true, jb0, jb01, jb1, jem, true_or, or_true, Classical.not_not, forall_const, List.length_cons, List.length_nil, Nat.reduceLeDiff, Nat.zero_le, Nat.reduceLT, and_self, not_true_eq_false, not_false_eq_true, false_imp_iff, true_imp_iff, implies_true, and_false, false_and, or_false, false_or, hX, kx_0_0 hX, kx_0_1 hX, kx_0_2 hX, kx_0_3 hX, kx_0_4 hX, kx_0_5 hX, kx_0_6 hX, kx_0_7 hX, kx_0_8 hX, kxo_0 hX, kx_1_0 hX, kx_1_1 hX, kx_1_2 hX, kx_1_3 hX, kxo_1 hX, kx_4_0 hX, kx_4_1 hX, kx_4_2 hX, kxo_4 hX, kx_19_0 hX, kx_19_1 hX, kx_19_2 hX, kx_19_3 hX, kx_19_4 hX, kxo_19 hX, kx_24_0 hX, kx_24_1 hX, kx_24_2 hX, kx_24_3 hX, kx_24_4 hX, kx_24_5 hX, kx_24_6 hX, kxo_24 hX, kxa_2 hX, kxa_3 hX, kxa_6 hX, kxa_7 hX, kxa_8 hX, kxa_9 hX, kxa_10 hX, kxa_18 hX, kxa_20 hX, kxa_21 hX, kxa_22 hX, kxa_23 hX, kxa_26 hX, kxa_27 hX, kxr_5 hX, kxr_11 hX, kxr_28 hX, T_X6_isRule, T_X1_directions, T_X4_setFromTape, T_X2_spoil, c1, c2, ht0, ht1, hv, nI_clamp hj31, up2_n (show ¬ 1 = 24 by decide), e11]
      exact hT2
    · have hT1 := hT1 c1 c2
      simp only [sg_X6_rule_0, sg_X6_rule_9, sg_X6_rule_37, cd_X6_rule, jwp, o_ic, o_lc, o_iload, o_lload, o_aload, o_istore, o_lstore, o_astore, o_iinc, o_pop, o_dup, o_dup2, o_iadd, o_isub, o_imul, o_iand, o_ior, o_ishl, o_ladd, o_lmul, o_land, o_lor, o_idiv, o_irem, o_ineg, o_i2l, o_l2i, o_i2b, o_i2s, o_lushr, o_lshr, o_lshl, o_lcmp, o_ifeq, o_ifne, o_iflt, o_ifge, o_ifgt, o_ifle, o_iceq, o_icne, o_iclt, o_icge, o_icgt, o_icle, o_goto, o_tsw, jsw, o_lsw, jlk, o_getf, o_putf, o_putz, o_iald, o_zald, o_iast, o_zast, o_aald, o_alen, o_gets, o_zld, o_zlen, o_cpy, o_call, o_callV, o_ireti, o_iretz, o_lret, o_vret, jg, js, jkp, jkill, jsp, jcs, jfw, jov, Value.category, Option.toList_some, Option.toList_none, List.nil_append, List.cons_append, List.append_nil, Nat.reduceAdd, true_and, and_true, jb0, jb01, jb1, jem, true_or, or_true, Classical.not_not, forall_const, List.length_cons, List.length_nil, Nat.reduceLeDiff, Nat.zero_le, Nat.reduceLT, and_self, not_true_eq_false, not_false_eq_true, false_imp_iff, true_imp_iff, implies_true, and_false, false_and, or_false, false_or, hX, kx_0_0 hX, kx_0_1 hX, kx_0_2 hX, kx_0_3 hX, kx_0_4 hX, kx_0_5 hX, kx_0_6 hX, kx_0_7 hX, kx_0_8 hX, kxo_0 hX, kx_1_0 hX, kx_1_1 hX, kx_1_2 hX, kx_1_3 hX, kxo_1 hX, kx_4_0 hX, kx_4_1 hX, kx_4_2 hX, kxo_4 hX, kx_19_0 hX, kx_19_1 hX, kx_19_2 hX, kx_19_3 hX, kx_19_4 hX, kxo_19 hX, kx_24_0 hX, kx_24_1 hX, kx_24_2 hX, kx_24_3 hX, kx_24_4 hX, kx_24_5 hX, kx_24_6 hX, kxo_24 hX, kxa_2 hX, kxa_3 hX, kxa_6 hX, kxa_7 hX, kxa_8 hX, kxa_9 hX, kxa_10 hX, kxa_18 hX, kxa_20 hX, kxa_21 hX, kxa_22 hX, kxa_23 hX, kxa_26 hX, kxa_27 hX, kxr_5 hX, kxr_11 hX, kxr_28 hX, T_X6_isRule, T_X1_directions, T_X4_setFromTape, T_X2_spoil, c1, c2, ht0, ht1, hv, nI_clamp hj31, jset_no (show ¬ False from fun z => z)]
      exact hT1
  · have hT0 := hT0 c1
    simp only [sg_X6_rule_0, sg_X6_rule_9, sg_X6_rule_37, cd_X6_rule, jwp, o_ic, o_lc, o_iload, o_lload, o_aload, o_istore, o_lstore, o_astore, o_iinc, o_pop, o_dup, o_dup2, o_iadd, o_isub, o_imul, o_iand, o_ior, o_ishl, o_ladd, o_lmul, o_land, o_lor, o_idiv, o_irem, o_ineg, o_i2l, o_l2i, o_i2b, o_i2s, o_lushr, o_lshr, o_lshl, o_lcmp, o_ifeq, o_ifne, o_iflt, o_ifge, o_ifgt, o_ifle, o_iceq, o_icne, o_iclt, o_icge, o_icgt, o_icle, o_goto, o_tsw, jsw, o_lsw, jlk, o_getf, o_putf, o_putz, o_iald, o_zald, o_iast, o_zast, o_aald, o_alen, o_gets, o_zld, o_zlen, o_cpy, o_call, o_callV, o_ireti, o_iretz, o_lret, o_vret, jg, js, jkp, jkill, jsp, jcs, jfw, jov, Value.category, Option.toList_some, Option.toList_none, List.nil_append, List.cons_append, List.append_nil, Nat.reduceAdd, true_and, and_true, jb0, jb01, jb1, jem, true_or, or_true, Classical.not_not, forall_const, List.length_cons, List.length_nil, Nat.reduceLeDiff, Nat.zero_le, Nat.reduceLT, and_self, not_true_eq_false, not_false_eq_true, false_imp_iff, true_imp_iff, implies_true, and_false, false_and, or_false, false_or, hX, kx_0_0 hX, kx_0_1 hX, kx_0_2 hX, kx_0_3 hX, kx_0_4 hX, kx_0_5 hX, kx_0_6 hX, kx_0_7 hX, kx_0_8 hX, kxo_0 hX, kx_1_0 hX, kx_1_1 hX, kx_1_2 hX, kx_1_3 hX, kxo_1 hX, kx_4_0 hX, kx_4_1 hX, kx_4_2 hX, kxo_4 hX, kx_19_0 hX, kx_19_1 hX, kx_19_2 hX, kx_19_3 hX, kx_19_4 hX, kxo_19 hX, kx_24_0 hX, kx_24_1 hX, kx_24_2 hX, kx_24_3 hX, kx_24_4 hX, kx_24_5 hX, kx_24_6 hX, kxo_24 hX, kxa_2 hX, kxa_3 hX, kxa_6 hX, kxa_7 hX, kxa_8 hX, kxa_9 hX, kxa_10 hX, kxa_18 hX, kxa_20 hX, kxa_21 hX, kxa_22 hX, kxa_23 hX, kxa_26 hX, kxa_27 hX, kxr_5 hX, kxr_11 hX, kxr_28 hX, T_X6_isRule, T_X1_directions, T_X4_setFromTape, T_X2_spoil, c1]
    exact hT0
theorem m_X6_rule (l : Launch) : jHolds vwCl l yX6_rule wsX6_rule 2 47 0 0 T_X6_rule := by
  refine m_X6_rule_of l (fun G Q vs K h H0 hT => ?_)
  unfold T_X6_rule at hT
  split at hT
  · obtain ⟨rfl, hT⟩ := hT
    exact ⟨Nat.le_of_ble_eq_true rfl, v_X6_rule hT H0⟩
  · exact hT.elim

/-! X6_ant -/
def T_X6_ant : jT := fun vs K h Q => match vs with
  | [.ref r0, .int x, .int y, .int d, .int r] => r0 = 0 ∧ (jX K ∧ (0 ≤ (h 0 7).toInt ∧ (h 0 7).toInt ≤ 6) ∧ (¬ (onF x y ∧ (0 ≤ d ∧ d ≤ jdirs h - 1) ∧ 0 ≤ r ∧ r ≤ 3) → Q (some (.int (-1))) K h) ∧ (onF x y ∧ (0 ≤ d ∧ d ≤ jdirs h - 1) ∧ 0 ≤ r ∧ r ≤ 3 → (6 ≤ h 0 7 → Q (some (.int (-3))) K h) ∧ (¬ 6 ≤ h 0 7 → Q (some (.int (h 0 7 + 1 - 1))) K (up2 (up2 (upAnt h (12 + (h 0 7).toNatClampNeg) x y d r) 0 7 (h 0 7 + 1)) 24 1 1))))
  | _ => False
def sg_X6_ant_0 : jS := [(o_iload 1, 1), (o_iload 2, 1), (o_call 2 T_X6_isOn, 3), (o_ifeq 33, 3), (o_iload 3, 1), (o_ic (0), 1), (o_aload 0, 1), (o_getf 6 0, 3), (o_callV 1 1 T_X1_directions, 3), (o_ic (1), 1), (o_isub, 1), (o_call 3 T_X6_isWithin, 3), (o_ifeq 33, 3), (o_iload 4, 2), (o_call 1 T_X6_isRule, 3), (o_ifne 35, 3), (o_ic (-1), 1), (o_ireti, 1)]
def sg_X6_ant_33 : jS := [(o_ic (-1), 1), (o_ireti, 1)]
def sg_X6_ant_35 : jS := [(o_aload 0, 1), (o_getf 6 7, 3), (o_ic (6), 2), (o_iclt 47, 3), (o_ic (-3), 2), (o_ireti, 1)]
def sg_X6_ant_47 : jS := [(o_aload 0, 1), (o_getf 6 2, 3), (o_aload 0, 1), (o_getf 6 7, 3), (o_aald 2, 1), (o_iload 1, 1), (o_iload 2, 1), (o_iload 3, 1), (o_iload 4, 2), (o_callV 5 0 T_X0_put, 3), (o_aload 0, 1), (o_dup, 1), (o_getf 6 7, 3), (o_ic (1), 1), (o_iadd, 1), (o_putf 6 7, 3), (o_aload 0, 1), (o_getf 6 5, 3), (o_callV 1 2 T_X2_spoil, 3), (o_aload 0, 1), (o_getf 6 7, 3), (o_ic (1), 1), (o_isub, 1), (o_ireti, 1)]
def cd_X6_ant : Nat → jS := fun t => match t with
  | 33 => sg_X6_ant_33
  | 35 => sg_X6_ant_35
  | 47 => sg_X6_ant_47
  | _ => []
theorem wl_X6_ant_12 : Cond.fieldLink RX6 12 (TX6 0).1 (TX6 0).2.1 (TX6 0).2.2.1 ∈ wsX6_ant := by decide +kernel
theorem wl_X6_ant_25 : Cond.fieldLink RX6 25 (TX6 2).1 (TX6 2).2.1 (TX6 2).2.2.1 ∈ wsX6_ant := by decide +kernel
theorem wl_X6_ant_44 : Cond.fieldLink RX6 44 (TX6 5).1 (TX6 5).2.1 (TX6 5).2.2.1 ∈ wsX6_ant := by decide +kernel
theorem wl_X6_ant_67 : Cond.fieldLink RX6 67 (TX6 7).1 (TX6 7).2.1 (TX6 7).2.2.1 ∈ wsX6_ant := by decide +kernel
theorem wi_X6_ant_X6 : ∀ w ∈ u_ws RX6 TX6 9, w ∈ wsX6_ant := by decide +kernel
def E_X6_ant (Γ : jΓ) (Q : jPost) : Prop := Γ.2.2.2.2.2.2.2.2.2.2.1 = 5 ∧ Γ.2.2.2.2.2.2.2.2.2.2.2.1 = vwCl ∧ jC Γ cX6_ant RX6 "ant" (some .int) wsX6_ant 2 42 0 0 ∧ jR Γ Q 0 0
theorem oo_X6_ant_0 {Γ : jΓ} {Q : jPost} (E : E_X6_ant Γ Q) : jSA Γ Q 0 (o_iload 1) 1 := so_iload_n E.2.2.1 rfl dX6_ant_0
theorem oo_X6_ant_1 {Γ : jΓ} {Q : jPost} (E : E_X6_ant Γ Q) : jSA Γ Q 1 (o_iload 2) 1 := so_iload_n E.2.2.1 rfl dX6_ant_1
theorem oo_X6_ant_2 {Γ : jΓ} {Q : jPost} (E : E_X6_ant Γ Q) : jSA Γ Q 2 (o_call 2 T_X6_isOn) 3 := so_callS E.2.2.1 gX6_ant_X6_isOn (by decide +kernel) rfl (by rw [E.2.1]; exact m_X6_isOn _) (by decide) (by decide) dX6_ant_2
theorem oo_X6_ant_5 {Γ : jΓ} {Q : jPost} (E : E_X6_ant Γ Q) : jSA Γ Q 5 (o_ifeq 33) 3 := so_ifeq E.2.2.1 (by decide) dX6_ant_5
theorem oo_X6_ant_8 {Γ : jΓ} {Q : jPost} (E : E_X6_ant Γ Q) : jSA Γ Q 8 (o_iload 3) 1 := so_iload_n E.2.2.1 rfl dX6_ant_8
theorem oo_X6_ant_9 {Γ : jΓ} {Q : jPost} (E : E_X6_ant Γ Q) : jSA Γ Q 9 (o_ic (0)) 1 := so_iconst E.2.2.1 rfl dX6_ant_9
theorem oo_X6_ant_10 {Γ : jΓ} {Q : jPost} (E : E_X6_ant Γ Q) : jSA Γ Q 10 (o_aload 0) 1 := so_aload_n E.2.2.1 rfl dX6_ant_10
theorem oo_X6_ant_11 {Γ : jΓ} {Q : jPost} (E : E_X6_ant Γ Q) : jSA Γ Q 11 (o_getf 6 0) 3 := so_getf (ci := 6) E.2.2.1 wi_X6_ant_X6 (by rw [E.2.1]; rfl) 0 (by decide) wl_X6_ant_12 dX6_ant_11
theorem oo_X6_ant_14 {Γ : jΓ} {Q : jPost} (E : E_X6_ant Γ Q) : jSA Γ Q 14 (o_callV 1 1 T_X1_directions) 3 := so_callV E.2.2.1 (ci := 1) (by rw [E.2.1]; rfl) gX6_ant_X1_directions (by decide +kernel) rfl (by rw [E.2.1]; exact m_X1_directions _) (by decide) (by decide) dX6_ant_14
theorem oo_X6_ant_17 {Γ : jΓ} {Q : jPost} (E : E_X6_ant Γ Q) : jSA Γ Q 17 (o_ic (1)) 1 := so_iconst E.2.2.1 rfl dX6_ant_17
theorem oo_X6_ant_18 {Γ : jΓ} {Q : jPost} (E : E_X6_ant Γ Q) : jSA Γ Q 18 (o_isub) 1 := so_isub E.2.2.1 dX6_ant_18
theorem oo_X6_ant_19 {Γ : jΓ} {Q : jPost} (E : E_X6_ant Γ Q) : jSA Γ Q 19 (o_call 3 T_X6_isWithin) 3 := so_callS E.2.2.1 gX6_ant_X6_isWithin (by decide +kernel) rfl (by rw [E.2.1]; exact m_X6_isWithin _) (by decide) (by decide) dX6_ant_19
theorem oo_X6_ant_22 {Γ : jΓ} {Q : jPost} (E : E_X6_ant Γ Q) : jSA Γ Q 22 (o_ifeq 33) 3 := so_ifeq E.2.2.1 (by decide) dX6_ant_22
theorem oo_X6_ant_25 {Γ : jΓ} {Q : jPost} (E : E_X6_ant Γ Q) : jSA Γ Q 25 (o_iload 4) 2 := so_iload E.2.2.1 dX6_ant_25
theorem oo_X6_ant_27 {Γ : jΓ} {Q : jPost} (E : E_X6_ant Γ Q) : jSA Γ Q 27 (o_call 1 T_X6_isRule) 3 := so_callS E.2.2.1 gX6_ant_X6_isRule (by decide +kernel) rfl (by rw [E.2.1]; exact m_X6_isRule _) (by decide) (by decide) dX6_ant_27
theorem oo_X6_ant_30 {Γ : jΓ} {Q : jPost} (E : E_X6_ant Γ Q) : jSA Γ Q 30 (o_ifne 35) 3 := so_ifne E.2.2.1 (by decide) dX6_ant_30
theorem oo_X6_ant_33 {Γ : jΓ} {Q : jPost} (E : E_X6_ant Γ Q) : jSA Γ Q 33 (o_ic (-1)) 1 := so_iconst E.2.2.1 rfl dX6_ant_33
theorem oo_X6_ant_34 {Γ : jΓ} {Q : jPost} (E : E_X6_ant Γ Q) : jSA Γ Q 34 (o_ireti) 1 := so_ireti E.2.2.1 E.2.2.2 dX6_ant_34
theorem oo_X6_ant_35 {Γ : jΓ} {Q : jPost} (E : E_X6_ant Γ Q) : jSA Γ Q 35 (o_aload 0) 1 := so_aload_n E.2.2.1 rfl dX6_ant_35
theorem oo_X6_ant_36 {Γ : jΓ} {Q : jPost} (E : E_X6_ant Γ Q) : jSA Γ Q 36 (o_getf 6 7) 3 := so_getf (ci := 6) E.2.2.1 wi_X6_ant_X6 (by rw [E.2.1]; rfl) 7 (by decide) wl_X6_ant_67 dX6_ant_36
theorem oo_X6_ant_39 {Γ : jΓ} {Q : jPost} (E : E_X6_ant Γ Q) : jSA Γ Q 39 (o_ic (6)) 2 := so_bipush E.2.2.1 rfl dX6_ant_39
theorem oo_X6_ant_41 {Γ : jΓ} {Q : jPost} (E : E_X6_ant Γ Q) : jSA Γ Q 41 (o_iclt 47) 3 := so_iclt E.2.2.1 (by decide) dX6_ant_41
theorem oo_X6_ant_44 {Γ : jΓ} {Q : jPost} (E : E_X6_ant Γ Q) : jSA Γ Q 44 (o_ic (-3)) 2 := so_bipush E.2.2.1 rfl dX6_ant_44
theorem oo_X6_ant_46 {Γ : jΓ} {Q : jPost} (E : E_X6_ant Γ Q) : jSA Γ Q 46 (o_ireti) 1 := so_ireti E.2.2.1 E.2.2.2 dX6_ant_46
theorem oo_X6_ant_47 {Γ : jΓ} {Q : jPost} (E : E_X6_ant Γ Q) : jSA Γ Q 47 (o_aload 0) 1 := so_aload_n E.2.2.1 rfl dX6_ant_47
theorem oo_X6_ant_48 {Γ : jΓ} {Q : jPost} (E : E_X6_ant Γ Q) : jSA Γ Q 48 (o_getf 6 2) 3 := so_getf (ci := 6) E.2.2.1 wi_X6_ant_X6 (by rw [E.2.1]; rfl) 2 (by decide) wl_X6_ant_25 dX6_ant_48
theorem oo_X6_ant_51 {Γ : jΓ} {Q : jPost} (E : E_X6_ant Γ Q) : jSA Γ Q 51 (o_aload 0) 1 := so_aload_n E.2.2.1 rfl dX6_ant_51
theorem oo_X6_ant_52 {Γ : jΓ} {Q : jPost} (E : E_X6_ant Γ Q) : jSA Γ Q 52 (o_getf 6 7) 3 := so_getf (ci := 6) E.2.2.1 wi_X6_ant_X6 (by rw [E.2.1]; rfl) 7 (by decide) wl_X6_ant_67 dX6_ant_52
theorem oo_X6_ant_55 {Γ : jΓ} {Q : jPost} (E : E_X6_ant Γ Q) : jSA Γ Q 55 (o_aald 2) 1 := so_aald2 E.2.2.1 dX6_ant_55
theorem oo_X6_ant_56 {Γ : jΓ} {Q : jPost} (E : E_X6_ant Γ Q) : jSA Γ Q 56 (o_iload 1) 1 := so_iload_n E.2.2.1 rfl dX6_ant_56
theorem oo_X6_ant_57 {Γ : jΓ} {Q : jPost} (E : E_X6_ant Γ Q) : jSA Γ Q 57 (o_iload 2) 1 := so_iload_n E.2.2.1 rfl dX6_ant_57
theorem oo_X6_ant_58 {Γ : jΓ} {Q : jPost} (E : E_X6_ant Γ Q) : jSA Γ Q 58 (o_iload 3) 1 := so_iload_n E.2.2.1 rfl dX6_ant_58
theorem oo_X6_ant_59 {Γ : jΓ} {Q : jPost} (E : E_X6_ant Γ Q) : jSA Γ Q 59 (o_iload 4) 2 := so_iload E.2.2.1 dX6_ant_59
theorem oo_X6_ant_61 {Γ : jΓ} {Q : jPost} (E : E_X6_ant Γ Q) : jSA Γ Q 61 (o_callV 5 0 T_X0_put) 3 := so_callV E.2.2.1 (ci := 0) (by rw [E.2.1]; rfl) gX6_ant_X0_put (by decide +kernel) rfl (by rw [E.2.1]; exact m_X0_put _) (by decide) (by decide) dX6_ant_61
theorem oo_X6_ant_64 {Γ : jΓ} {Q : jPost} (E : E_X6_ant Γ Q) : jSA Γ Q 64 (o_aload 0) 1 := so_aload_n E.2.2.1 rfl dX6_ant_64
theorem oo_X6_ant_65 {Γ : jΓ} {Q : jPost} (E : E_X6_ant Γ Q) : jSA Γ Q 65 (o_dup) 1 := so_dup E.2.2.1 dX6_ant_65
theorem oo_X6_ant_66 {Γ : jΓ} {Q : jPost} (E : E_X6_ant Γ Q) : jSA Γ Q 66 (o_getf 6 7) 3 := so_getf (ci := 6) E.2.2.1 wi_X6_ant_X6 (by rw [E.2.1]; rfl) 7 (by decide) wl_X6_ant_67 dX6_ant_66
theorem oo_X6_ant_69 {Γ : jΓ} {Q : jPost} (E : E_X6_ant Γ Q) : jSA Γ Q 69 (o_ic (1)) 1 := so_iconst E.2.2.1 rfl dX6_ant_69
theorem oo_X6_ant_70 {Γ : jΓ} {Q : jPost} (E : E_X6_ant Γ Q) : jSA Γ Q 70 (o_iadd) 1 := so_iadd E.2.2.1 dX6_ant_70
theorem oo_X6_ant_71 {Γ : jΓ} {Q : jPost} (E : E_X6_ant Γ Q) : jSA Γ Q 71 (o_putf 6 7) 3 := so_putf (ci := 6) E.2.2.1 tyX6 tyX6_ok nmX6 wi_X6_ant_X6 (by rw [E.2.1]; rfl) 7 (by decide) wl_X6_ant_67 rfl (by decide +kernel) dX6_ant_71
theorem oo_X6_ant_74 {Γ : jΓ} {Q : jPost} (E : E_X6_ant Γ Q) : jSA Γ Q 74 (o_aload 0) 1 := so_aload_n E.2.2.1 rfl dX6_ant_74
theorem oo_X6_ant_75 {Γ : jΓ} {Q : jPost} (E : E_X6_ant Γ Q) : jSA Γ Q 75 (o_getf 6 5) 3 := so_getf (ci := 6) E.2.2.1 wi_X6_ant_X6 (by rw [E.2.1]; rfl) 5 (by decide) wl_X6_ant_44 dX6_ant_75
theorem oo_X6_ant_78 {Γ : jΓ} {Q : jPost} (E : E_X6_ant Γ Q) : jSA Γ Q 78 (o_callV 1 2 T_X2_spoil) 3 := so_callV E.2.2.1 (ci := 2) (by rw [E.2.1]; rfl) gX6_ant_X2_spoil (by decide +kernel) rfl (by rw [E.2.1]; exact m_X2_spoil _) (by decide) (by decide) dX6_ant_78
theorem oo_X6_ant_81 {Γ : jΓ} {Q : jPost} (E : E_X6_ant Γ Q) : jSA Γ Q 81 (o_aload 0) 1 := so_aload_n E.2.2.1 rfl dX6_ant_81
theorem oo_X6_ant_82 {Γ : jΓ} {Q : jPost} (E : E_X6_ant Γ Q) : jSA Γ Q 82 (o_getf 6 7) 3 := so_getf (ci := 6) E.2.2.1 wi_X6_ant_X6 (by rw [E.2.1]; rfl) 7 (by decide) wl_X6_ant_67 dX6_ant_82
theorem oo_X6_ant_85 {Γ : jΓ} {Q : jPost} (E : E_X6_ant Γ Q) : jSA Γ Q 85 (o_ic (1)) 1 := so_iconst E.2.2.1 rfl dX6_ant_85
theorem oo_X6_ant_86 {Γ : jΓ} {Q : jPost} (E : E_X6_ant Γ Q) : jSA Γ Q 86 (o_isub) 1 := so_isub E.2.2.1 dX6_ant_86
theorem oo_X6_ant_87 {Γ : jΓ} {Q : jPost} (E : E_X6_ant Γ Q) : jSA Γ Q 87 (o_ireti) 1 := so_ireti E.2.2.1 E.2.2.2 dX6_ant_87
theorem ok_X6_ant_0 {Γ : jΓ} {Q : jPost} (E : E_X6_ant Γ Q) : jSS Γ Q 0 sg_X6_ant_0 := ⟨oo_X6_ant_0 E, oo_X6_ant_1 E, oo_X6_ant_2 E, oo_X6_ant_5 E, oo_X6_ant_8 E, oo_X6_ant_9 E, oo_X6_ant_10 E, oo_X6_ant_11 E, oo_X6_ant_14 E, oo_X6_ant_17 E, oo_X6_ant_18 E, oo_X6_ant_19 E, oo_X6_ant_22 E, oo_X6_ant_25 E, oo_X6_ant_27 E, oo_X6_ant_30 E, oo_X6_ant_33 E, oo_X6_ant_34 E, trivial⟩
theorem ok_X6_ant_33 {Γ : jΓ} {Q : jPost} (E : E_X6_ant Γ Q) : jSS Γ Q 33 sg_X6_ant_33 := ⟨oo_X6_ant_33 E, oo_X6_ant_34 E, trivial⟩
theorem ok_X6_ant_35 {Γ : jΓ} {Q : jPost} (E : E_X6_ant Γ Q) : jSS Γ Q 35 sg_X6_ant_35 := ⟨oo_X6_ant_35 E, oo_X6_ant_36 E, oo_X6_ant_39 E, oo_X6_ant_41 E, oo_X6_ant_44 E, oo_X6_ant_46 E, trivial⟩
theorem ok_X6_ant_47 {Γ : jΓ} {Q : jPost} (E : E_X6_ant Γ Q) : jSS Γ Q 47 sg_X6_ant_47 := ⟨oo_X6_ant_47 E, oo_X6_ant_48 E, oo_X6_ant_51 E, oo_X6_ant_52 E, oo_X6_ant_55 E, oo_X6_ant_56 E, oo_X6_ant_57 E, oo_X6_ant_58 E, oo_X6_ant_59 E, oo_X6_ant_61 E, oo_X6_ant_64 E, oo_X6_ant_65 E, oo_X6_ant_66 E, oo_X6_ant_69 E, oo_X6_ant_70 E, oo_X6_ant_71 E, oo_X6_ant_74 E, oo_X6_ant_75 E, oo_X6_ant_78 E, oo_X6_ant_81 E, oo_X6_ant_82 E, oo_X6_ant_85 E, oo_X6_ant_86 E, oo_X6_ant_87 E, trivial⟩
theorem okc_X6_ant {Γ : jΓ} {Q : jPost} (E : E_X6_ant Γ Q) (t : Nat) : jSS Γ Q t (cd_X6_ant t) := by
  unfold cd_X6_ant
  split
  · exact ok_X6_ant_33 E
  · exact ok_X6_ant_35 E
  · exact ok_X6_ant_47 E
  · trivial
theorem m_X6_ant_of (l : Launch) (hv : ∀ (G : jGt) (Q : jPost) (vs : List Value) (K : List jK) (h : jM), jHd cd_X6_ant G Q sg_X6_ant_0 0 → T_X6_ant vs K h Q → (lg_sl vs).length ≤ 5 ∧ G 0 (jinit vs 5) [] K h 0 0) : jHolds vwCl l yX6_ant wsX6_ant 2 42 0 0 T_X6_ant := by
  refine jMet (cc := cX6_ant) (maxL := 5) (rt := (some .int)) (by decide +kernel) rfl (fun Γ Q vs K h hl hn hcl C hR hT => hv (jG Γ) Q vs K h ?_ hT)
  · exact fun n L st K h ce sl => jwp_ok (okc_X6_ant ⟨hn, hcl, C, hR⟩) n sg_X6_ant_0 0 (ok_X6_ant_0 ⟨hn, hcl, C, hR⟩) L st K h ce sl
set_option maxHeartbeats 4000000 in
set_option maxRecDepth 100000 in
theorem v_X6_ant {G : jGt} {Q : jPost} {K : List jK} {h : jM} {x : Int32} {y : Int32} {d : Int32} {r : Int32} (hT : jX K ∧ (0 ≤ (h 0 7).toInt ∧ (h 0 7).toInt ≤ 6) ∧ (¬ (onF x y ∧ (0 ≤ d ∧ d ≤ jdirs h - 1) ∧ 0 ≤ r ∧ r ≤ 3) → Q (some (.int (-1))) K h) ∧ (onF x y ∧ (0 ≤ d ∧ d ≤ jdirs h - 1) ∧ 0 ≤ r ∧ r ≤ 3 → (6 ≤ h 0 7 → Q (some (.int (-3))) K h) ∧ (¬ 6 ≤ h 0 7 → Q (some (.int (h 0 7 + 1 - 1))) K (up2 (up2 (upAnt h (12 + (h 0 7).toNatClampNeg) x y d r) 0 7 (h 0 7 + 1)) 24 1 1)))) (H0 : jHd cd_X6_ant G Q sg_X6_ant_0 0) : G 0 [some (.ref 0), some (.int x), some (.int y), some (.int d), some (.int r)] [] K h 0 0 := by
  obtain ⟨hX, ⟨ht0, ht1⟩, hT0, hT1⟩ := hT
  refine H0 80 _ _ _ _ _ _ ?_
  by_cases c1 : onF x y
  · by_cases c2 : 0 ≤ d ∧ d ≤ jdirs h - 1
    · by_cases c3 : 0 ≤ r ∧ r ≤ 3
      · obtain ⟨hT1, hT2⟩ := hT1 ⟨c1, c2, c3⟩
        obtain ⟨cnt, hcnt, e7⟩ := jnat (N := 6) ht0 ht1
        by_cases c4 : 6 ≤ h 0 7
        · have hT1 := hT1 c4
          simp only [sg_X6_ant_0, sg_X6_ant_33, sg_X6_ant_35, sg_X6_ant_47, cd_X6_ant, jwp, o_ic, o_lc, o_iload, o_lload, o_aload, o_istore, o_lstore, o_astore, o_iinc, o_pop, o_dup, o_dup2, o_iadd, o_isub, o_imul, o_iand, o_ior, o_ishl, o_ladd, o_lmul, o_land, o_lor, o_idiv, o_irem, o_ineg, o_i2l, o_l2i, o_i2b, o_i2s, o_lushr, o_lshr, o_lshl, o_lcmp, o_ifeq, o_ifne, o_iflt, o_ifge, o_ifgt, o_ifle, o_iceq, o_icne, o_iclt, o_icge, o_icgt, o_icle, o_goto, o_tsw, jsw, o_lsw, jlk, o_getf, o_putf, o_putz, o_iald, o_zald, o_iast, o_zast, o_aald, o_alen, o_gets, o_zld, o_zlen, o_cpy, o_call, o_callV, o_ireti, o_iretz, o_lret, o_vret, jg, js, jkp, jkill, jsp, jcs, jfw, jov, Value.category, Option.toList_some, Option.toList_none, List.nil_append, List.cons_append, List.append_nil, Nat.reduceAdd, true_and, and_true, jb0, jb01, jb1, jem, true_or, or_true, Classical.not_not, forall_const, List.length_cons, List.length_nil, Nat.reduceLeDiff, Nat.zero_le, Nat.reduceLT, and_self, not_true_eq_false, not_false_eq_true, false_imp_iff, true_imp_iff, implies_true, and_false, false_and, or_false, false_or, hX, kx_0_0 hX, kx_0_1 hX, kx_0_2 hX, kx_0_3 hX, kx_0_4 hX, kx_0_5 hX, kx_0_6 hX, kx_0_7 hX, kx_0_8 hX, kxo_0 hX, kx_1_0 hX, kx_1_1 hX, kx_1_2 hX, kx_1_3 hX, kxo_1 hX, kx_4_0 hX, kx_4_1 hX, kx_4_2 hX, kxo_4 hX, kx_19_0 hX, kx_19_1 hX, kx_19_2 hX, kx_19_3 hX, kx_19_4 hX, kxo_19 hX, kx_24_0 hX, kx_24_1 hX, kx_24_2 hX, kx_24_3 hX, kx_24_4 hX, kx_24_5 hX, kx_24_6 hX, kxo_24 hX, kxa_2 hX, kxa_3 hX, kxa_6 hX, kxa_7 hX, kxa_8 hX, kxa_9 hX, kxa_10 hX, kxa_18 hX, kxa_20 hX, kxa_21 hX, kxa_22 hX, kxa_23 hX, kxa_26 hX, kxa_27 hX, kxr_5 hX, kxr_11 hX, kxr_28 hX, T_X6_isOn, T_X1_directions, T_X6_isWithin, T_X6_isRule, c1, c2, c3, Int32.not_lt, Int32.not_le, c4]
          refine ⟨fun z => absurd c4 (Int32.not_le.mpr z), hT1⟩
        · have hT2 := hT2 c4
          have h6 : cnt < 6 := by
            rw [e7] at c4
            by_cases z : cnt < 6
            · exact z
            · exact absurd (by rw [show (6 : Int32) = nI 6 from rfl]; exact (nI_leI (by decide) (by omega)).mpr (by omega)) c4
          have h31 : cnt < 2147483648 := by omega
          rw [e7, nI_clamp h31] at hT2
          have hai : isAnt (12 + cnt) := by unfold isAnt; omega
          have hv : vp_in (nI cnt) 6 := vp_in_nI h6 (by decide)
          have e0 : upAnt h (12 + cnt) x y d r 0 7 = nI cnt := by rw [upAnt_n (by omega), e7]
          simp only [sg_X6_ant_0, sg_X6_ant_33, sg_X6_ant_35, sg_X6_ant_47, cd_X6_ant, jwp, o_ic, o_lc, o_iload, o_lload, o_aload, o_istore, o_lstore, o_astore, o_iinc, o_pop, o_dup, o_dup2, o_iadd, o_isub, o_imul, o_iand, o_ior, o_ishl, o_ladd, o_lmul, o_land, o_lor, o_idiv, o_irem, o_ineg, o_i2l, o_l2i, o_i2b, o_i2s, o_lushr, o_lshr, o_lshl, o_lcmp, o_ifeq, o_ifne, o_iflt, o_ifge, o_ifgt, o_ifle, o_iceq, o_icne, o_iclt, o_icge, o_icgt, o_icle, o_goto, o_tsw, jsw, o_lsw, jlk, o_getf, o_putf, o_putz, o_iald, o_zald, o_iast, o_zast, o_aald, o_alen, o_gets, o_zld, o_zlen, o_cpy, o_call, o_callV, o_ireti, o_iretz, o_lret, o_vret, jg, js, jkp, jkill, jsp, jcs, jfw, jov, Value.category, Option.toList_some, Option.toList_none, List.nil_append, List.cons_append, List.append_nil, Nat.reduceAdd, true_and, and_true, jb0, jb01, jb1, jem, true_or, or_true, Classical.not_not, forall_const, List.length_cons, List.length_nil, Nat.reduceLeDiff, Nat.zero_le, Nat.reduceLT, and_self, not_true_eq_false, not_false_eq_true, false_imp_iff, true_imp_iff, implies_true, and_false, false_and, or_false, false_or, hX, kx_0_0 hX, kx_0_1 hX, kx_0_2 hX, kx_0_3 hX, kx_0_4 hX, kx_0_5 hX, kx_0_6 hX, kx_0_7 hX, kx_0_8 hX, kxo_0 hX, kx_1_0 hX, kx_1_1 hX, kx_1_2 hX, kx_1_3 hX, kxo_1 hX, kx_4_0 hX, kx_4_1 hX, kx_4_2 hX, kxo_4 hX, kx_19_0 hX, kx_19_1 hX, kx_19_2 hX, kx_19_3 hX, kx_19_4 hX, kxo_19 hX, kx_24_0 hX, kx_24_1 hX, kx_24_2 hX, kx_24_3 hX, kx_24_4 hX, kx_24_5 hX, kx_24_6 hX, kxo_24 hX, kxa_2 hX, kxa_3 hX, kxa_6 hX, kxa_7 hX, kxa_8 hX, kxa_9 hX, kxa_10 hX, kxa_18 hX, kxa_20 hX, kxa_21 hX, kxa_22 hX, kxa_23 hX, kxa_26 hX, kxa_27 hX, kxr_5 hX, kxr_11 hX, kxr_28 hX, T_X6_isOn, T_X1_directions, T_X6_isWithin, T_X6_isRule, T_X0_put, T_X2_spoil, c1, c2, c3, e7, nI_clamp h31, kx_ants h6, kxn_o hX hai, hai, hv, e0, up2_n (show ¬ 0 = 24 by decide), up2_s, upd_s]
          refine ⟨fun _ => hT2, fun z => absurd (by rw [e7] at c4; exact Int32.not_le.mp c4) z⟩
      · have hT0 := hT0 (fun z => c3 z.2.2)
        simp only [sg_X6_ant_0, sg_X6_ant_33, sg_X6_ant_35, sg_X6_ant_47, cd_X6_ant, jwp, o_ic, o_lc, o_iload, o_lload, o_aload, o_istore, o_lstore, o_astore, o_iinc, o_pop, o_dup, o_dup2, o_iadd, o_isub, o_imul, o_iand, o_ior, o_ishl, o_ladd, o_lmul, o_land, o_lor, o_idiv, o_irem, o_ineg, o_i2l, o_l2i, o_i2b, o_i2s, o_lushr, o_lshr, o_lshl, o_lcmp, o_ifeq, o_ifne, o_iflt, o_ifge, o_ifgt, o_ifle, o_iceq, o_icne, o_iclt, o_icge, o_icgt, o_icle, o_goto, o_tsw, jsw, o_lsw, jlk, o_getf, o_putf, o_putz, o_iald, o_zald, o_iast, o_zast, o_aald, o_alen, o_gets, o_zld, o_zlen, o_cpy, o_call, o_callV, o_ireti, o_iretz, o_lret, o_vret, jg, js, jkp, jkill, jsp, jcs, jfw, jov, Value.category, Option.toList_some, Option.toList_none, List.nil_append, List.cons_append, List.append_nil, Nat.reduceAdd, true_and, and_true, jb0, jb01, jb1, jem, true_or, or_true, Classical.not_not, forall_const, List.length_cons, List.length_nil, Nat.reduceLeDiff, Nat.zero_le, Nat.reduceLT, and_self, not_true_eq_false, not_false_eq_true, false_imp_iff, true_imp_iff, implies_true, and_false, false_and, or_false, false_or, hX, kx_0_0 hX, kx_0_1 hX, kx_0_2 hX, kx_0_3 hX, kx_0_4 hX, kx_0_5 hX, kx_0_6 hX, kx_0_7 hX, kx_0_8 hX, kxo_0 hX, kx_1_0 hX, kx_1_1 hX, kx_1_2 hX, kx_1_3 hX, kxo_1 hX, kx_4_0 hX, kx_4_1 hX, kx_4_2 hX, kxo_4 hX, kx_19_0 hX, kx_19_1 hX, kx_19_2 hX, kx_19_3 hX, kx_19_4 hX, kxo_19 hX, kx_24_0 hX, kx_24_1 hX, kx_24_2 hX, kx_24_3 hX, kx_24_4 hX, kx_24_5 hX, kx_24_6 hX, kxo_24 hX, kxa_2 hX, kxa_3 hX, kxa_6 hX, kxa_7 hX, kxa_8 hX, kxa_9 hX, kxa_10 hX, kxa_18 hX, kxa_20 hX, kxa_21 hX, kxa_22 hX, kxa_23 hX, kxa_26 hX, kxa_27 hX, kxr_5 hX, kxr_11 hX, kxr_28 hX, T_X6_isOn, T_X1_directions, T_X6_isWithin, T_X6_isRule, c1, c2, c3]
        exact hT0
    · have hT0 := hT0 (fun z => c2 z.2.1)
      simp only [sg_X6_ant_0, sg_X6_ant_33, sg_X6_ant_35, sg_X6_ant_47, cd_X6_ant, jwp, o_ic, o_lc, o_iload, o_lload, o_aload, o_istore, o_lstore, o_astore, o_iinc, o_pop, o_dup, o_dup2, o_iadd, o_isub, o_imul, o_iand, o_ior, o_ishl, o_ladd, o_lmul, o_land, o_lor, o_idiv, o_irem, o_ineg, o_i2l, o_l2i, o_i2b, o_i2s, o_lushr, o_lshr, o_lshl, o_lcmp, o_ifeq, o_ifne, o_iflt, o_ifge, o_ifgt, o_ifle, o_iceq, o_icne, o_iclt, o_icge, o_icgt, o_icle, o_goto, o_tsw, jsw, o_lsw, jlk, o_getf, o_putf, o_putz, o_iald, o_zald, o_iast, o_zast, o_aald, o_alen, o_gets, o_zld, o_zlen, o_cpy, o_call, o_callV, o_ireti, o_iretz, o_lret, o_vret, jg, js, jkp, jkill, jsp, jcs, jfw, jov, Value.category, Option.toList_some, Option.toList_none, List.nil_append, List.cons_append, List.append_nil, Nat.reduceAdd, true_and, and_true, jb0, jb01, jb1, jem, true_or, or_true, Classical.not_not, forall_const, List.length_cons, List.length_nil, Nat.reduceLeDiff, Nat.zero_le, Nat.reduceLT, and_self, not_true_eq_false, not_false_eq_true, false_imp_iff, true_imp_iff, implies_true, and_false, false_and, or_false, false_or, hX, kx_0_0 hX, kx_0_1 hX, kx_0_2 hX, kx_0_3 hX, kx_0_4 hX, kx_0_5 hX, kx_0_6 hX, kx_0_7 hX, kx_0_8 hX, kxo_0 hX, kx_1_0 hX, kx_1_1 hX, kx_1_2 hX, kx_1_3 hX, kxo_1 hX, kx_4_0 hX, kx_4_1 hX, kx_4_2 hX, kxo_4 hX, kx_19_0 hX, kx_19_1 hX, kx_19_2 hX, kx_19_3 hX, kx_19_4 hX, kxo_19 hX, kx_24_0 hX, kx_24_1 hX, kx_24_2 hX, kx_24_3 hX, kx_24_4 hX, kx_24_5 hX, kx_24_6 hX, kxo_24 hX, kxa_2 hX, kxa_3 hX, kxa_6 hX, kxa_7 hX, kxa_8 hX, kxa_9 hX, kxa_10 hX, kxa_18 hX, kxa_20 hX, kxa_21 hX, kxa_22 hX, kxa_23 hX, kxa_26 hX, kxa_27 hX, kxr_5 hX, kxr_11 hX, kxr_28 hX, T_X6_isOn, T_X1_directions, T_X6_isWithin, T_X6_isRule, c1, c2]
      exact hT0
  · have hT0 := hT0 (fun z => c1 z.1)
    simp only [sg_X6_ant_0, sg_X6_ant_33, sg_X6_ant_35, sg_X6_ant_47, cd_X6_ant, jwp, o_ic, o_lc, o_iload, o_lload, o_aload, o_istore, o_lstore, o_astore, o_iinc, o_pop, o_dup, o_dup2, o_iadd, o_isub, o_imul, o_iand, o_ior, o_ishl, o_ladd, o_lmul, o_land, o_lor, o_idiv, o_irem, o_ineg, o_i2l, o_l2i, o_i2b, o_i2s, o_lushr, o_lshr, o_lshl, o_lcmp, o_ifeq, o_ifne, o_iflt, o_ifge, o_ifgt, o_ifle, o_iceq, o_icne, o_iclt, o_icge, o_icgt, o_icle, o_goto, o_tsw, jsw, o_lsw, jlk, o_getf, o_putf, o_putz, o_iald, o_zald, o_iast, o_zast, o_aald, o_alen, o_gets, o_zld, o_zlen, o_cpy, o_call, o_callV, o_ireti, o_iretz, o_lret, o_vret, jg, js, jkp, jkill, jsp, jcs, jfw, jov, Value.category, Option.toList_some, Option.toList_none, List.nil_append, List.cons_append, List.append_nil, Nat.reduceAdd, true_and, and_true, jb0, jb01, jb1, jem, true_or, or_true, Classical.not_not, forall_const, List.length_cons, List.length_nil, Nat.reduceLeDiff, Nat.zero_le, Nat.reduceLT, and_self, not_true_eq_false, not_false_eq_true, false_imp_iff, true_imp_iff, implies_true, and_false, false_and, or_false, false_or, hX, kx_0_0 hX, kx_0_1 hX, kx_0_2 hX, kx_0_3 hX, kx_0_4 hX, kx_0_5 hX, kx_0_6 hX, kx_0_7 hX, kx_0_8 hX, kxo_0 hX, kx_1_0 hX, kx_1_1 hX, kx_1_2 hX, kx_1_3 hX, kxo_1 hX, kx_4_0 hX, kx_4_1 hX, kx_4_2 hX, kxo_4 hX, kx_19_0 hX, kx_19_1 hX, kx_19_2 hX, kx_19_3 hX, kx_19_4 hX, kxo_19 hX, kx_24_0 hX, kx_24_1 hX, kx_24_2 hX, kx_24_3 hX, kx_24_4 hX, kx_24_5 hX, kx_24_6 hX, kxo_24 hX, kxa_2 hX, kxa_3 hX, kxa_6 hX, kxa_7 hX, kxa_8 hX, kxa_9 hX, kxa_10 hX, kxa_18 hX, kxa_20 hX, kxa_21 hX, kxa_22 hX, kxa_23 hX, kxa_26 hX, kxa_27 hX, kxr_5 hX, kxr_11 hX, kxr_28 hX, T_X6_isOn, T_X1_directions, T_X6_isWithin, T_X6_isRule, c1]
    exact hT0
theorem m_X6_ant (l : Launch) : jHolds vwCl l yX6_ant wsX6_ant 2 42 0 0 T_X6_ant := by
  refine m_X6_ant_of l (fun G Q vs K h H0 hT => ?_)
  unfold T_X6_ant at hT
  split at hT
  · obtain ⟨rfl, hT⟩ := hT
    exact ⟨Nat.le_of_ble_eq_true rfl, v_X6_ant hT H0⟩
  · exact hT.elim





/-- what a row has at a cell, or bad -/
noncomputable def jcb (f : Nat → Int32) (bad x y : Int32) : Int32 := @ite Int32 (onF x y) (Classical.propDecidable _) (f (jpl x y).toNatClampNeg) bad

/-! X6_visits -/
def T_X6_visits : jT := fun vs K h Q => match vs with
  | [.ref r0, .int x, .int y] => r0 = 0 ∧ (jX K ∧ Q (some (.int (jcb (h 3) (-10000001) x y))) K h)
  | _ => False
def sg_X6_visits_0 : jS := [(o_iload 1, 1), (o_iload 2, 1), (o_call 2 T_X6_placeOf, 3), (o_istore 3, 1), (o_iload 3, 1), (o_ifge 15, 3), (o_ic (-10000001), 2), (o_goto 24, 3)]
def sg_X6_visits_15 : jS := [(o_aload 0, 1), (o_getf 6 0, 3), (o_getf 1 3, 3), (o_iload 3, 1), (o_iald, 1), (o_ireti, 1)]
def sg_X6_visits_24 : jS := [(o_ireti, 1)]
def cd_X6_visits : Nat → jS := fun t => match t with
  | 15 => sg_X6_visits_15
  | 24 => sg_X6_visits_24
  | _ => []
theorem wl_X6_visits_12 : Cond.fieldLink RX6 12 (TX6 0).1 (TX6 0).2.1 (TX6 0).2.2.1 ∈ wsX6_visits := by decide +kernel
theorem wl_X6_visits_150 : Cond.fieldLink RX6 150 (TX1 3).1 (TX1 3).2.1 (TX1 3).2.2.1 ∈ wsX6_visits := by decide +kernel
theorem wi_X6_visits_X1 : ∀ w ∈ u_ws RX1 TX1 4, w ∈ wsX6_visits := by decide +kernel
theorem wi_X6_visits_X6 : ∀ w ∈ u_ws RX6 TX6 9, w ∈ wsX6_visits := by decide +kernel
def E_X6_visits (Γ : jΓ) (Q : jPost) : Prop := Γ.2.2.2.2.2.2.2.2.2.2.1 = 4 ∧ Γ.2.2.2.2.2.2.2.2.2.2.2.1 = vwCl ∧ jC Γ cX6_visits RX6 "visits" (some .int) wsX6_visits 2 42 0 0 ∧ jR Γ Q 0 0
theorem oo_X6_visits_0 {Γ : jΓ} {Q : jPost} (E : E_X6_visits Γ Q) : jSA Γ Q 0 (o_iload 1) 1 := so_iload_n E.2.2.1 rfl dX6_visits_0
theorem oo_X6_visits_1 {Γ : jΓ} {Q : jPost} (E : E_X6_visits Γ Q) : jSA Γ Q 1 (o_iload 2) 1 := so_iload_n E.2.2.1 rfl dX6_visits_1
theorem oo_X6_visits_2 {Γ : jΓ} {Q : jPost} (E : E_X6_visits Γ Q) : jSA Γ Q 2 (o_call 2 T_X6_placeOf) 3 := so_callS E.2.2.1 gX6_visits_X6_placeOf (by decide +kernel) rfl (by rw [E.2.1]; exact m_X6_placeOf _) (by decide) (by decide) dX6_visits_2
theorem oo_X6_visits_5 {Γ : jΓ} {Q : jPost} (E : E_X6_visits Γ Q) : jSA Γ Q 5 (o_istore 3) 1 := so_istore_n E.2.2.1 rfl (by rw [E.1]; decide) dX6_visits_5
theorem oo_X6_visits_6 {Γ : jΓ} {Q : jPost} (E : E_X6_visits Γ Q) : jSA Γ Q 6 (o_iload 3) 1 := so_iload_n E.2.2.1 rfl dX6_visits_6
theorem oo_X6_visits_7 {Γ : jΓ} {Q : jPost} (E : E_X6_visits Γ Q) : jSA Γ Q 7 (o_ifge 15) 3 := so_ifge E.2.2.1 (by decide) dX6_visits_7
theorem oo_X6_visits_10 {Γ : jΓ} {Q : jPost} (E : E_X6_visits Γ Q) : jSA Γ Q 10 (o_ic (-10000001)) 2 := so_ldc E.2.2.1 (by decide +kernel) dX6_visits_10
theorem oo_X6_visits_12 {Γ : jΓ} {Q : jPost} (E : E_X6_visits Γ Q) : jSA Γ Q 12 (o_goto 24) 3 := so_goto E.2.2.1 (by decide) dX6_visits_12
theorem oo_X6_visits_15 {Γ : jΓ} {Q : jPost} (E : E_X6_visits Γ Q) : jSA Γ Q 15 (o_aload 0) 1 := so_aload_n E.2.2.1 rfl dX6_visits_15
theorem oo_X6_visits_16 {Γ : jΓ} {Q : jPost} (E : E_X6_visits Γ Q) : jSA Γ Q 16 (o_getf 6 0) 3 := so_getf (ci := 6) E.2.2.1 wi_X6_visits_X6 (by rw [E.2.1]; rfl) 0 (by decide) wl_X6_visits_12 dX6_visits_16
theorem oo_X6_visits_19 {Γ : jΓ} {Q : jPost} (E : E_X6_visits Γ Q) : jSA Γ Q 19 (o_getf 1 3) 3 := so_getf (ci := 1) E.2.2.1 wi_X6_visits_X1 (by rw [E.2.1]; rfl) 3 (by decide) wl_X6_visits_150 dX6_visits_19
theorem oo_X6_visits_22 {Γ : jΓ} {Q : jPost} (E : E_X6_visits Γ Q) : jSA Γ Q 22 (o_iload 3) 1 := so_iload_n E.2.2.1 rfl dX6_visits_22
theorem oo_X6_visits_23 {Γ : jΓ} {Q : jPost} (E : E_X6_visits Γ Q) : jSA Γ Q 23 (o_iald) 1 := so_iald E.2.2.1 dX6_visits_23
theorem oo_X6_visits_24 {Γ : jΓ} {Q : jPost} (E : E_X6_visits Γ Q) : jSA Γ Q 24 (o_ireti) 1 := so_ireti E.2.2.1 E.2.2.2 dX6_visits_24
theorem ok_X6_visits_0 {Γ : jΓ} {Q : jPost} (E : E_X6_visits Γ Q) : jSS Γ Q 0 sg_X6_visits_0 := ⟨oo_X6_visits_0 E, oo_X6_visits_1 E, oo_X6_visits_2 E, oo_X6_visits_5 E, oo_X6_visits_6 E, oo_X6_visits_7 E, oo_X6_visits_10 E, oo_X6_visits_12 E, trivial⟩
theorem ok_X6_visits_15 {Γ : jΓ} {Q : jPost} (E : E_X6_visits Γ Q) : jSS Γ Q 15 sg_X6_visits_15 := ⟨oo_X6_visits_15 E, oo_X6_visits_16 E, oo_X6_visits_19 E, oo_X6_visits_22 E, oo_X6_visits_23 E, oo_X6_visits_24 E, trivial⟩
theorem ok_X6_visits_24 {Γ : jΓ} {Q : jPost} (E : E_X6_visits Γ Q) : jSS Γ Q 24 sg_X6_visits_24 := ⟨oo_X6_visits_24 E, trivial⟩
theorem okc_X6_visits {Γ : jΓ} {Q : jPost} (E : E_X6_visits Γ Q) (t : Nat) : jSS Γ Q t (cd_X6_visits t) := by
  unfold cd_X6_visits
  split
  · exact ok_X6_visits_15 E
  · exact ok_X6_visits_24 E
  · trivial
theorem m_X6_visits_of (l : Launch) (hv : ∀ (G : jGt) (Q : jPost) (vs : List Value) (K : List jK) (h : jM), jHd cd_X6_visits G Q sg_X6_visits_0 0 → T_X6_visits vs K h Q → (lg_sl vs).length ≤ 4 ∧ G 0 (jinit vs 4) [] K h 0 0) : jHolds vwCl l yX6_visits wsX6_visits 2 42 0 0 T_X6_visits := by
  refine jMet (cc := cX6_visits) (maxL := 4) (rt := (some .int)) (by decide +kernel) rfl (fun Γ Q vs K h hl hn hcl C hR hT => hv (jG Γ) Q vs K h ?_ hT)
  · exact fun n L st K h ce sl => jwp_ok (okc_X6_visits ⟨hn, hcl, C, hR⟩) n sg_X6_visits_0 0 (ok_X6_visits_0 ⟨hn, hcl, C, hR⟩) L st K h ce sl
set_option maxHeartbeats 4000000 in
set_option maxRecDepth 100000 in
theorem v_X6_visits {G : jGt} {Q : jPost} {K : List jK} {h : jM} {x : Int32} {y : Int32} (hT : jX K ∧ Q (some (.int (jcb (h 3) (-10000001) x y))) K h) (H0 : jHd cd_X6_visits G Q sg_X6_visits_0 0) : G 0 [some (.ref 0), some (.int x), some (.int y), none] [] K h 0 0 := by
  obtain ⟨hX, hT⟩ := hT
  refine H0 80 _ _ _ _ _ _ ?_
  unfold jcb at hT
  by_cases c1 : onF x y
  · have hp := jpl_in c1
    have hp2 : ¬ jpl x y < 0 := by
      rw [Int32.lt_iff_toInt_lt]; exact fun z => absurd z (Int.not_lt.mpr (vp_in_iff.mp hp).1)
    have hp3 : 0 ≤ jpl x y := Int32.not_lt.mp hp2
    rw [if_pos c1] at hT
    simp only [sg_X6_visits_0, sg_X6_visits_15, sg_X6_visits_24, cd_X6_visits, jwp, o_ic, o_lc, o_iload, o_lload, o_aload, o_istore, o_lstore, o_astore, o_iinc, o_pop, o_dup, o_dup2, o_iadd, o_isub, o_imul, o_iand, o_ior, o_ishl, o_ladd, o_lmul, o_land, o_lor, o_idiv, o_irem, o_ineg, o_i2l, o_l2i, o_i2b, o_i2s, o_lushr, o_lshr, o_lshl, o_lcmp, o_ifeq, o_ifne, o_iflt, o_ifge, o_ifgt, o_ifle, o_iceq, o_icne, o_iclt, o_icge, o_icgt, o_icle, o_goto, o_tsw, jsw, o_lsw, jlk, o_getf, o_putf, o_putz, o_iald, o_zald, o_iast, o_zast, o_aald, o_alen, o_gets, o_zld, o_zlen, o_cpy, o_call, o_callV, o_ireti, o_iretz, o_lret, o_vret, jg, js, jkp, jkill, jsp, jcs, jfw, jov, Value.category, Option.toList_some, Option.toList_none, List.nil_append, List.cons_append, List.append_nil, Nat.reduceAdd, true_and, and_true, jb0, jb01, jb1, jem, true_or, or_true, Classical.not_not, forall_const, List.length_cons, List.length_nil, Nat.reduceLeDiff, Nat.zero_le, Nat.reduceLT, and_self, not_true_eq_false, not_false_eq_true, false_imp_iff, true_imp_iff, implies_true, and_false, false_and, or_false, false_or, hX, kx_0_0 hX, kx_0_1 hX, kx_0_2 hX, kx_0_3 hX, kx_0_4 hX, kx_0_5 hX, kx_0_6 hX, kx_0_7 hX, kx_0_8 hX, kxo_0 hX, kx_1_0 hX, kx_1_1 hX, kx_1_2 hX, kx_1_3 hX, kxo_1 hX, kx_4_0 hX, kx_4_1 hX, kx_4_2 hX, kxo_4 hX, kx_19_0 hX, kx_19_1 hX, kx_19_2 hX, kx_19_3 hX, kx_19_4 hX, kxo_19 hX, kx_24_0 hX, kx_24_1 hX, kx_24_2 hX, kx_24_3 hX, kx_24_4 hX, kx_24_5 hX, kx_24_6 hX, kxo_24 hX, kxa_2 hX, kxa_3 hX, kxa_6 hX, kxa_7 hX, kxa_8 hX, kxa_9 hX, kxa_10 hX, kxa_18 hX, kxa_20 hX, kxa_21 hX, kxa_22 hX, kxa_23 hX, kxa_26 hX, kxa_27 hX, kxr_5 hX, kxr_11 hX, kxr_28 hX, T_X6_placeOf, hp, hp2, hp3]
    exact hT
  · rw [if_neg c1] at hT
    have e : jpl x y = -1 := jpl_off c1
    have e2 : ((0 : Int32) ≤ -1) = False := by simp
    simp only [sg_X6_visits_0, sg_X6_visits_15, sg_X6_visits_24, cd_X6_visits, jwp, o_ic, o_lc, o_iload, o_lload, o_aload, o_istore, o_lstore, o_astore, o_iinc, o_pop, o_dup, o_dup2, o_iadd, o_isub, o_imul, o_iand, o_ior, o_ishl, o_ladd, o_lmul, o_land, o_lor, o_idiv, o_irem, o_ineg, o_i2l, o_l2i, o_i2b, o_i2s, o_lushr, o_lshr, o_lshl, o_lcmp, o_ifeq, o_ifne, o_iflt, o_ifge, o_ifgt, o_ifle, o_iceq, o_icne, o_iclt, o_icge, o_icgt, o_icle, o_goto, o_tsw, jsw, o_lsw, jlk, o_getf, o_putf, o_putz, o_iald, o_zald, o_iast, o_zast, o_aald, o_alen, o_gets, o_zld, o_zlen, o_cpy, o_call, o_callV, o_ireti, o_iretz, o_lret, o_vret, jg, js, jkp, jkill, jsp, jcs, jfw, jov, Value.category, Option.toList_some, Option.toList_none, List.nil_append, List.cons_append, List.append_nil, Nat.reduceAdd, true_and, and_true, jb0, jb01, jb1, jem, true_or, or_true, Classical.not_not, forall_const, List.length_cons, List.length_nil, Nat.reduceLeDiff, Nat.zero_le, Nat.reduceLT, and_self, not_true_eq_false, not_false_eq_true, false_imp_iff, true_imp_iff, implies_true, and_false, false_and, or_false, false_or, hX, kx_0_0 hX, kx_0_1 hX, kx_0_2 hX, kx_0_3 hX, kx_0_4 hX, kx_0_5 hX, kx_0_6 hX, kx_0_7 hX, kx_0_8 hX, kxo_0 hX, kx_1_0 hX, kx_1_1 hX, kx_1_2 hX, kx_1_3 hX, kxo_1 hX, kx_4_0 hX, kx_4_1 hX, kx_4_2 hX, kxo_4 hX, kx_19_0 hX, kx_19_1 hX, kx_19_2 hX, kx_19_3 hX, kx_19_4 hX, kxo_19 hX, kx_24_0 hX, kx_24_1 hX, kx_24_2 hX, kx_24_3 hX, kx_24_4 hX, kx_24_5 hX, kx_24_6 hX, kxo_24 hX, kxa_2 hX, kxa_3 hX, kxa_6 hX, kxa_7 hX, kxa_8 hX, kxa_9 hX, kxa_10 hX, kxa_18 hX, kxa_20 hX, kxa_21 hX, kxa_22 hX, kxa_23 hX, kxa_26 hX, kxa_27 hX, kxr_5 hX, kxr_11 hX, kxr_28 hX, T_X6_placeOf, e, e2]
    exact hT
theorem m_X6_visits (l : Launch) : jHolds vwCl l yX6_visits wsX6_visits 2 42 0 0 T_X6_visits := by
  refine m_X6_visits_of l (fun G Q vs K h H0 hT => ?_)
  unfold T_X6_visits at hT
  split at hT
  · obtain ⟨rfl, hT⟩ := hT
    exact ⟨Nat.le_of_ble_eq_true rfl, v_X6_visits hT H0⟩
  · exact hT.elim

/-! X6_time -/
def T_X6_time : jT := fun vs K h Q => match vs with
  | [.ref r0] => r0 = 0 ∧ (jX K ∧ Q (some (.int (h 0 8))) K h)
  | _ => False
def sg_X6_time_0 : jS := [(o_aload 0, 1), (o_getf 6 8, 3), (o_ireti, 1)]
def cd_X6_time : Nat → jS := fun t => match t with
  | _ => []
theorem wl_X6_time_76 : Cond.fieldLink RX6 76 (TX6 8).1 (TX6 8).2.1 (TX6 8).2.2.1 ∈ wsX6_time := by decide +kernel
theorem wi_X6_time_X6 : ∀ w ∈ u_ws RX6 TX6 9, w ∈ wsX6_time := by decide +kernel
def E_X6_time (Γ : jΓ) (Q : jPost) : Prop := Γ.2.2.2.2.2.2.2.2.2.2.1 = 1 ∧ Γ.2.2.2.2.2.2.2.2.2.2.2.1 = vwCl ∧ jC Γ cX6_time RX6 "time" (some .int) wsX6_time 0 0 0 0 ∧ jR Γ Q 0 0
theorem oo_X6_time_0 {Γ : jΓ} {Q : jPost} (E : E_X6_time Γ Q) : jSA Γ Q 0 (o_aload 0) 1 := so_aload_n E.2.2.1 rfl dX6_time_0
theorem oo_X6_time_1 {Γ : jΓ} {Q : jPost} (E : E_X6_time Γ Q) : jSA Γ Q 1 (o_getf 6 8) 3 := so_getf (ci := 6) E.2.2.1 wi_X6_time_X6 (by rw [E.2.1]; rfl) 8 (by decide) wl_X6_time_76 dX6_time_1
theorem oo_X6_time_4 {Γ : jΓ} {Q : jPost} (E : E_X6_time Γ Q) : jSA Γ Q 4 (o_ireti) 1 := so_ireti E.2.2.1 E.2.2.2 dX6_time_4
theorem ok_X6_time_0 {Γ : jΓ} {Q : jPost} (E : E_X6_time Γ Q) : jSS Γ Q 0 sg_X6_time_0 := ⟨oo_X6_time_0 E, oo_X6_time_1 E, oo_X6_time_4 E, trivial⟩
theorem okc_X6_time {Γ : jΓ} {Q : jPost} (E : E_X6_time Γ Q) (t : Nat) : jSS Γ Q t (cd_X6_time t) := by
  unfold cd_X6_time
  trivial
theorem m_X6_time_of (l : Launch) (hv : ∀ (G : jGt) (Q : jPost) (vs : List Value) (K : List jK) (h : jM), jHd cd_X6_time G Q sg_X6_time_0 0 → T_X6_time vs K h Q → (lg_sl vs).length ≤ 1 ∧ G 0 (jinit vs 1) [] K h 0 0) : jHolds vwCl l yX6_time wsX6_time 0 0 0 0 T_X6_time := by
  refine jMet (cc := cX6_time) (maxL := 1) (rt := (some .int)) (by decide +kernel) rfl (fun Γ Q vs K h hl hn hcl C hR hT => hv (jG Γ) Q vs K h ?_ hT)
  · exact fun n L st K h ce sl => jwp_ok (okc_X6_time ⟨hn, hcl, C, hR⟩) n sg_X6_time_0 0 (ok_X6_time_0 ⟨hn, hcl, C, hR⟩) L st K h ce sl
set_option maxHeartbeats 4000000 in
set_option maxRecDepth 100000 in
theorem v_X6_time {G : jGt} {Q : jPost} {K : List jK} {h : jM}  (hT : jX K ∧ Q (some (.int (h 0 8))) K h) (H0 : jHd cd_X6_time G Q sg_X6_time_0 0) : G 0 [some (.ref 0)] [] K h 0 0 := by
  obtain ⟨hX, hT⟩ := hT
  refine H0 80 _ _ _ _ _ _ ?_
  simp only [sg_X6_time_0, cd_X6_time, jwp, o_ic, o_lc, o_iload, o_lload, o_aload, o_istore, o_lstore, o_astore, o_iinc, o_pop, o_dup, o_dup2, o_iadd, o_isub, o_imul, o_iand, o_ior, o_ishl, o_ladd, o_lmul, o_land, o_lor, o_idiv, o_irem, o_ineg, o_i2l, o_l2i, o_i2b, o_i2s, o_lushr, o_lshr, o_lshl, o_lcmp, o_ifeq, o_ifne, o_iflt, o_ifge, o_ifgt, o_ifle, o_iceq, o_icne, o_iclt, o_icge, o_icgt, o_icle, o_goto, o_tsw, jsw, o_lsw, jlk, o_getf, o_putf, o_putz, o_iald, o_zald, o_iast, o_zast, o_aald, o_alen, o_gets, o_zld, o_zlen, o_cpy, o_call, o_callV, o_ireti, o_iretz, o_lret, o_vret, jg, js, jkp, jkill, jsp, jcs, jfw, jov, Value.category, Option.toList_some, Option.toList_none, List.nil_append, List.cons_append, List.append_nil, Nat.reduceAdd, true_and, and_true, jb0, jb01, jb1, jem, true_or, or_true, Classical.not_not, forall_const, List.length_cons, List.length_nil, Nat.reduceLeDiff, Nat.zero_le, Nat.reduceLT, and_self, not_true_eq_false, not_false_eq_true, false_imp_iff, true_imp_iff, implies_true, and_false, false_and, or_false, false_or, hX, kx_0_0 hX, kx_0_1 hX, kx_0_2 hX, kx_0_3 hX, kx_0_4 hX, kx_0_5 hX, kx_0_6 hX, kx_0_7 hX, kx_0_8 hX, kxo_0 hX, kx_1_0 hX, kx_1_1 hX, kx_1_2 hX, kx_1_3 hX, kxo_1 hX, kx_4_0 hX, kx_4_1 hX, kx_4_2 hX, kxo_4 hX, kx_19_0 hX, kx_19_1 hX, kx_19_2 hX, kx_19_3 hX, kx_19_4 hX, kxo_19 hX, kx_24_0 hX, kx_24_1 hX, kx_24_2 hX, kx_24_3 hX, kx_24_4 hX, kx_24_5 hX, kx_24_6 hX, kxo_24 hX, kxa_2 hX, kxa_3 hX, kxa_6 hX, kxa_7 hX, kxa_8 hX, kxa_9 hX, kxa_10 hX, kxa_18 hX, kxa_20 hX, kxa_21 hX, kxa_22 hX, kxa_23 hX, kxa_26 hX, kxa_27 hX, kxr_5 hX, kxr_11 hX, kxr_28 hX]
  exact hT
theorem m_X6_time (l : Launch) : jHolds vwCl l yX6_time wsX6_time 0 0 0 0 T_X6_time := by
  refine m_X6_time_of l (fun G Q vs K h H0 hT => ?_)
  unfold T_X6_time at hT
  split at hT
  · obtain ⟨rfl, hT⟩ := hT
    exact ⟨Nat.le_of_ble_eq_true rfl, v_X6_time hT H0⟩
  · exact hT.elim



/-! X6_told -/
def T_X6_told : jT := fun vs K h Q => match vs with
  | [.ref r0, .int a, .int w] => r0 = 0 ∧ (jX K ∧ (0 ≤ (h 0 7).toInt ∧ (h 0 7).toInt ≤ 6) ∧ (¬ (0 ≤ a ∧ a ≤ h 0 7 - 1) → Q (some (.int (-1001))) K h) ∧ (0 ≤ a ∧ a ≤ h 0 7 - 1 → Q (some (.int (if w.toInt = 0 then h (12 + a.toNatClampNeg) 0 else if w.toInt = 1 then h (12 + a.toNatClampNeg) 1 else if w.toInt = 2 then h (12 + a.toNatClampNeg) 2 else if w.toInt = 3 then h (12 + a.toNatClampNeg) 3 else -1001))) K h))
  | _ => False
def sg_X6_told_0 : jS := [(o_iload 1, 1), (o_ic (0), 1), (o_aload 0, 1), (o_getf 6 7, 3), (o_ic (1), 1), (o_isub, 1), (o_call 3 T_X6_isWithin, 3), (o_ifne 18, 3), (o_ic (-1001), 3), (o_ireti, 1)]
def sg_X6_told_18 : jS := [(o_iload 2, 1), (o_tsw (0) 88 [48, 58, 68, 78], 29)]
def sg_X6_told_48 : jS := [(o_aload 0, 1), (o_getf 6 2, 3), (o_iload 1, 1), (o_aald 2, 1), (o_getf 0 0, 3), (o_ireti, 1)]
def sg_X6_told_58 : jS := [(o_aload 0, 1), (o_getf 6 2, 3), (o_iload 1, 1), (o_aald 2, 1), (o_getf 0 1, 3), (o_ireti, 1)]
def sg_X6_told_68 : jS := [(o_aload 0, 1), (o_getf 6 2, 3), (o_iload 1, 1), (o_aald 2, 1), (o_getf 0 2, 3), (o_ireti, 1)]
def sg_X6_told_78 : jS := [(o_aload 0, 1), (o_getf 6 2, 3), (o_iload 1, 1), (o_aald 2, 1), (o_getf 0 3, 3), (o_ireti, 1)]
def sg_X6_told_88 : jS := [(o_ic (-1001), 3), (o_ireti, 1)]
def cd_X6_told : Nat → jS := fun t => match t with
  | 18 => sg_X6_told_18
  | 48 => sg_X6_told_48
  | 58 => sg_X6_told_58
  | 68 => sg_X6_told_68
  | 78 => sg_X6_told_78
  | 88 => sg_X6_told_88
  | _ => []
theorem wl_X6_told_25 : Cond.fieldLink RX6 25 (TX6 2).1 (TX6 2).2.1 (TX6 2).2.2.1 ∈ wsX6_told := by decide +kernel
theorem wl_X6_told_67 : Cond.fieldLink RX6 67 (TX6 7).1 (TX6 7).2.1 (TX6 7).2.2.1 ∈ wsX6_told := by decide +kernel
theorem wl_X6_told_114 : Cond.fieldLink RX6 114 (TX0 0).1 (TX0 0).2.1 (TX0 0).2.2.1 ∈ wsX6_told := by decide +kernel
theorem wl_X6_told_117 : Cond.fieldLink RX6 117 (TX0 1).1 (TX0 1).2.1 (TX0 1).2.2.1 ∈ wsX6_told := by decide +kernel
theorem wl_X6_told_120 : Cond.fieldLink RX6 120 (TX0 2).1 (TX0 2).2.1 (TX0 2).2.2.1 ∈ wsX6_told := by decide +kernel
theorem wl_X6_told_123 : Cond.fieldLink RX6 123 (TX0 3).1 (TX0 3).2.1 (TX0 3).2.2.1 ∈ wsX6_told := by decide +kernel
theorem wi_X6_told_X0 : ∀ w ∈ u_ws RX0 TX0 4, w ∈ wsX6_told := by decide +kernel
theorem wi_X6_told_X6 : ∀ w ∈ u_ws RX6 TX6 9, w ∈ wsX6_told := by decide +kernel
def E_X6_told (Γ : jΓ) (Q : jPost) : Prop := Γ.2.2.2.2.2.2.2.2.2.2.1 = 3 ∧ Γ.2.2.2.2.2.2.2.2.2.2.2.1 = vwCl ∧ jC Γ cX6_told RX6 "told" (some .int) wsX6_told 1 22 0 0 ∧ jR Γ Q 0 0
theorem oo_X6_told_0 {Γ : jΓ} {Q : jPost} (E : E_X6_told Γ Q) : jSA Γ Q 0 (o_iload 1) 1 := so_iload_n E.2.2.1 rfl dX6_told_0
theorem oo_X6_told_1 {Γ : jΓ} {Q : jPost} (E : E_X6_told Γ Q) : jSA Γ Q 1 (o_ic (0)) 1 := so_iconst E.2.2.1 rfl dX6_told_1
theorem oo_X6_told_2 {Γ : jΓ} {Q : jPost} (E : E_X6_told Γ Q) : jSA Γ Q 2 (o_aload 0) 1 := so_aload_n E.2.2.1 rfl dX6_told_2
theorem oo_X6_told_3 {Γ : jΓ} {Q : jPost} (E : E_X6_told Γ Q) : jSA Γ Q 3 (o_getf 6 7) 3 := so_getf (ci := 6) E.2.2.1 wi_X6_told_X6 (by rw [E.2.1]; rfl) 7 (by decide) wl_X6_told_67 dX6_told_3
theorem oo_X6_told_6 {Γ : jΓ} {Q : jPost} (E : E_X6_told Γ Q) : jSA Γ Q 6 (o_ic (1)) 1 := so_iconst E.2.2.1 rfl dX6_told_6
theorem oo_X6_told_7 {Γ : jΓ} {Q : jPost} (E : E_X6_told Γ Q) : jSA Γ Q 7 (o_isub) 1 := so_isub E.2.2.1 dX6_told_7
theorem oo_X6_told_8 {Γ : jΓ} {Q : jPost} (E : E_X6_told Γ Q) : jSA Γ Q 8 (o_call 3 T_X6_isWithin) 3 := so_callS E.2.2.1 gX6_told_X6_isWithin (by decide +kernel) rfl (by rw [E.2.1]; exact m_X6_isWithin _) (by decide) (by decide) dX6_told_8
theorem oo_X6_told_11 {Γ : jΓ} {Q : jPost} (E : E_X6_told Γ Q) : jSA Γ Q 11 (o_ifne 18) 3 := so_ifne E.2.2.1 (by decide) dX6_told_11
theorem oo_X6_told_14 {Γ : jΓ} {Q : jPost} (E : E_X6_told Γ Q) : jSA Γ Q 14 (o_ic (-1001)) 3 := so_sipush E.2.2.1 rfl dX6_told_14
theorem oo_X6_told_17 {Γ : jΓ} {Q : jPost} (E : E_X6_told Γ Q) : jSA Γ Q 17 (o_ireti) 1 := so_ireti E.2.2.1 E.2.2.2 dX6_told_17
theorem oo_X6_told_18 {Γ : jΓ} {Q : jPost} (E : E_X6_told Γ Q) : jSA Γ Q 18 (o_iload 2) 1 := so_iload_n E.2.2.1 rfl dX6_told_18
theorem oo_X6_told_19 {Γ : jΓ} {Q : jPost} (E : E_X6_told Γ Q) : jSA Γ Q 19 (o_tsw (0) 88 [48, 58, 68, 78]) 29 := so_tsw E.2.2.1 (by decide) (by decide) (by decide) dX6_told_19
theorem oo_X6_told_48 {Γ : jΓ} {Q : jPost} (E : E_X6_told Γ Q) : jSA Γ Q 48 (o_aload 0) 1 := so_aload_n E.2.2.1 rfl dX6_told_48
theorem oo_X6_told_49 {Γ : jΓ} {Q : jPost} (E : E_X6_told Γ Q) : jSA Γ Q 49 (o_getf 6 2) 3 := so_getf (ci := 6) E.2.2.1 wi_X6_told_X6 (by rw [E.2.1]; rfl) 2 (by decide) wl_X6_told_25 dX6_told_49
theorem oo_X6_told_52 {Γ : jΓ} {Q : jPost} (E : E_X6_told Γ Q) : jSA Γ Q 52 (o_iload 1) 1 := so_iload_n E.2.2.1 rfl dX6_told_52
theorem oo_X6_told_53 {Γ : jΓ} {Q : jPost} (E : E_X6_told Γ Q) : jSA Γ Q 53 (o_aald 2) 1 := so_aald2 E.2.2.1 dX6_told_53
theorem oo_X6_told_54 {Γ : jΓ} {Q : jPost} (E : E_X6_told Γ Q) : jSA Γ Q 54 (o_getf 0 0) 3 := so_getf (ci := 0) E.2.2.1 wi_X6_told_X0 (by rw [E.2.1]; rfl) 0 (by decide) wl_X6_told_114 dX6_told_54
theorem oo_X6_told_57 {Γ : jΓ} {Q : jPost} (E : E_X6_told Γ Q) : jSA Γ Q 57 (o_ireti) 1 := so_ireti E.2.2.1 E.2.2.2 dX6_told_57
theorem oo_X6_told_58 {Γ : jΓ} {Q : jPost} (E : E_X6_told Γ Q) : jSA Γ Q 58 (o_aload 0) 1 := so_aload_n E.2.2.1 rfl dX6_told_58
theorem oo_X6_told_59 {Γ : jΓ} {Q : jPost} (E : E_X6_told Γ Q) : jSA Γ Q 59 (o_getf 6 2) 3 := so_getf (ci := 6) E.2.2.1 wi_X6_told_X6 (by rw [E.2.1]; rfl) 2 (by decide) wl_X6_told_25 dX6_told_59
theorem oo_X6_told_62 {Γ : jΓ} {Q : jPost} (E : E_X6_told Γ Q) : jSA Γ Q 62 (o_iload 1) 1 := so_iload_n E.2.2.1 rfl dX6_told_62
theorem oo_X6_told_63 {Γ : jΓ} {Q : jPost} (E : E_X6_told Γ Q) : jSA Γ Q 63 (o_aald 2) 1 := so_aald2 E.2.2.1 dX6_told_63
theorem oo_X6_told_64 {Γ : jΓ} {Q : jPost} (E : E_X6_told Γ Q) : jSA Γ Q 64 (o_getf 0 1) 3 := so_getf (ci := 0) E.2.2.1 wi_X6_told_X0 (by rw [E.2.1]; rfl) 1 (by decide) wl_X6_told_117 dX6_told_64
theorem oo_X6_told_67 {Γ : jΓ} {Q : jPost} (E : E_X6_told Γ Q) : jSA Γ Q 67 (o_ireti) 1 := so_ireti E.2.2.1 E.2.2.2 dX6_told_67
theorem oo_X6_told_68 {Γ : jΓ} {Q : jPost} (E : E_X6_told Γ Q) : jSA Γ Q 68 (o_aload 0) 1 := so_aload_n E.2.2.1 rfl dX6_told_68
theorem oo_X6_told_69 {Γ : jΓ} {Q : jPost} (E : E_X6_told Γ Q) : jSA Γ Q 69 (o_getf 6 2) 3 := so_getf (ci := 6) E.2.2.1 wi_X6_told_X6 (by rw [E.2.1]; rfl) 2 (by decide) wl_X6_told_25 dX6_told_69
theorem oo_X6_told_72 {Γ : jΓ} {Q : jPost} (E : E_X6_told Γ Q) : jSA Γ Q 72 (o_iload 1) 1 := so_iload_n E.2.2.1 rfl dX6_told_72
theorem oo_X6_told_73 {Γ : jΓ} {Q : jPost} (E : E_X6_told Γ Q) : jSA Γ Q 73 (o_aald 2) 1 := so_aald2 E.2.2.1 dX6_told_73
theorem oo_X6_told_74 {Γ : jΓ} {Q : jPost} (E : E_X6_told Γ Q) : jSA Γ Q 74 (o_getf 0 2) 3 := so_getf (ci := 0) E.2.2.1 wi_X6_told_X0 (by rw [E.2.1]; rfl) 2 (by decide) wl_X6_told_120 dX6_told_74
theorem oo_X6_told_77 {Γ : jΓ} {Q : jPost} (E : E_X6_told Γ Q) : jSA Γ Q 77 (o_ireti) 1 := so_ireti E.2.2.1 E.2.2.2 dX6_told_77
theorem oo_X6_told_78 {Γ : jΓ} {Q : jPost} (E : E_X6_told Γ Q) : jSA Γ Q 78 (o_aload 0) 1 := so_aload_n E.2.2.1 rfl dX6_told_78
theorem oo_X6_told_79 {Γ : jΓ} {Q : jPost} (E : E_X6_told Γ Q) : jSA Γ Q 79 (o_getf 6 2) 3 := so_getf (ci := 6) E.2.2.1 wi_X6_told_X6 (by rw [E.2.1]; rfl) 2 (by decide) wl_X6_told_25 dX6_told_79
theorem oo_X6_told_82 {Γ : jΓ} {Q : jPost} (E : E_X6_told Γ Q) : jSA Γ Q 82 (o_iload 1) 1 := so_iload_n E.2.2.1 rfl dX6_told_82
theorem oo_X6_told_83 {Γ : jΓ} {Q : jPost} (E : E_X6_told Γ Q) : jSA Γ Q 83 (o_aald 2) 1 := so_aald2 E.2.2.1 dX6_told_83
theorem oo_X6_told_84 {Γ : jΓ} {Q : jPost} (E : E_X6_told Γ Q) : jSA Γ Q 84 (o_getf 0 3) 3 := so_getf (ci := 0) E.2.2.1 wi_X6_told_X0 (by rw [E.2.1]; rfl) 3 (by decide) wl_X6_told_123 dX6_told_84
theorem oo_X6_told_87 {Γ : jΓ} {Q : jPost} (E : E_X6_told Γ Q) : jSA Γ Q 87 (o_ireti) 1 := so_ireti E.2.2.1 E.2.2.2 dX6_told_87
theorem oo_X6_told_88 {Γ : jΓ} {Q : jPost} (E : E_X6_told Γ Q) : jSA Γ Q 88 (o_ic (-1001)) 3 := so_sipush E.2.2.1 rfl dX6_told_88
theorem oo_X6_told_91 {Γ : jΓ} {Q : jPost} (E : E_X6_told Γ Q) : jSA Γ Q 91 (o_ireti) 1 := so_ireti E.2.2.1 E.2.2.2 dX6_told_91
theorem ok_X6_told_0 {Γ : jΓ} {Q : jPost} (E : E_X6_told Γ Q) : jSS Γ Q 0 sg_X6_told_0 := ⟨oo_X6_told_0 E, oo_X6_told_1 E, oo_X6_told_2 E, oo_X6_told_3 E, oo_X6_told_6 E, oo_X6_told_7 E, oo_X6_told_8 E, oo_X6_told_11 E, oo_X6_told_14 E, oo_X6_told_17 E, trivial⟩
theorem ok_X6_told_18 {Γ : jΓ} {Q : jPost} (E : E_X6_told Γ Q) : jSS Γ Q 18 sg_X6_told_18 := ⟨oo_X6_told_18 E, oo_X6_told_19 E, trivial⟩
theorem ok_X6_told_48 {Γ : jΓ} {Q : jPost} (E : E_X6_told Γ Q) : jSS Γ Q 48 sg_X6_told_48 := ⟨oo_X6_told_48 E, oo_X6_told_49 E, oo_X6_told_52 E, oo_X6_told_53 E, oo_X6_told_54 E, oo_X6_told_57 E, trivial⟩
theorem ok_X6_told_58 {Γ : jΓ} {Q : jPost} (E : E_X6_told Γ Q) : jSS Γ Q 58 sg_X6_told_58 := ⟨oo_X6_told_58 E, oo_X6_told_59 E, oo_X6_told_62 E, oo_X6_told_63 E, oo_X6_told_64 E, oo_X6_told_67 E, trivial⟩
theorem ok_X6_told_68 {Γ : jΓ} {Q : jPost} (E : E_X6_told Γ Q) : jSS Γ Q 68 sg_X6_told_68 := ⟨oo_X6_told_68 E, oo_X6_told_69 E, oo_X6_told_72 E, oo_X6_told_73 E, oo_X6_told_74 E, oo_X6_told_77 E, trivial⟩
theorem ok_X6_told_78 {Γ : jΓ} {Q : jPost} (E : E_X6_told Γ Q) : jSS Γ Q 78 sg_X6_told_78 := ⟨oo_X6_told_78 E, oo_X6_told_79 E, oo_X6_told_82 E, oo_X6_told_83 E, oo_X6_told_84 E, oo_X6_told_87 E, trivial⟩
theorem ok_X6_told_88 {Γ : jΓ} {Q : jPost} (E : E_X6_told Γ Q) : jSS Γ Q 88 sg_X6_told_88 := ⟨oo_X6_told_88 E, oo_X6_told_91 E, trivial⟩
theorem okc_X6_told {Γ : jΓ} {Q : jPost} (E : E_X6_told Γ Q) (t : Nat) : jSS Γ Q t (cd_X6_told t) := by
  unfold cd_X6_told
  split
  · exact ok_X6_told_18 E
  · exact ok_X6_told_48 E
  · exact ok_X6_told_58 E
  · exact ok_X6_told_68 E
  · exact ok_X6_told_78 E
  · exact ok_X6_told_88 E
  · trivial
theorem m_X6_told_of (l : Launch) (hv : ∀ (G : jGt) (Q : jPost) (vs : List Value) (K : List jK) (h : jM), jHd cd_X6_told G Q sg_X6_told_0 0 → T_X6_told vs K h Q → (lg_sl vs).length ≤ 3 ∧ G 0 (jinit vs 3) [] K h 0 0) : jHolds vwCl l yX6_told wsX6_told 1 22 0 0 T_X6_told := by
  refine jMet (cc := cX6_told) (maxL := 3) (rt := (some .int)) (by decide +kernel) rfl (fun Γ Q vs K h hl hn hcl C hR hT => hv (jG Γ) Q vs K h ?_ hT)
  · exact fun n L st K h ce sl => jwp_ok (okc_X6_told ⟨hn, hcl, C, hR⟩) n sg_X6_told_0 0 (ok_X6_told_0 ⟨hn, hcl, C, hR⟩) L st K h ce sl
set_option maxHeartbeats 4000000 in
set_option maxRecDepth 100000 in
theorem v_X6_told {G : jGt} {Q : jPost} {K : List jK} {h : jM} {a : Int32} {w : Int32} (hT : jX K ∧ (0 ≤ (h 0 7).toInt ∧ (h 0 7).toInt ≤ 6) ∧ (¬ (0 ≤ a ∧ a ≤ h 0 7 - 1) → Q (some (.int (-1001))) K h) ∧ (0 ≤ a ∧ a ≤ h 0 7 - 1 → Q (some (.int (if w.toInt = 0 then h (12 + a.toNatClampNeg) 0 else if w.toInt = 1 then h (12 + a.toNatClampNeg) 1 else if w.toInt = 2 then h (12 + a.toNatClampNeg) 2 else if w.toInt = 3 then h (12 + a.toNatClampNeg) 3 else -1001))) K h)) (H0 : jHd cd_X6_told G Q sg_X6_told_0 0) : G 0 [some (.ref 0), some (.int a), some (.int w)] [] K h 0 0 := by
  obtain ⟨hX, ⟨ht0, ht1⟩, hT0, hT1⟩ := hT
  refine H0 80 _ _ _ _ _ _ ?_
  by_cases c1 : 0 ≤ a ∧ a ≤ h 0 7 - 1
  · have hT1 := hT1 c1
    have e1 : (0 : Int) ≤ a.toInt := le_of_lit c1.1
    have e2 : a.toInt ≤ (h 0 7 - 1).toInt := le_of_lit c1.2
    have e3 : (h 0 7 - 1).toInt = (h 0 7).toInt - 1 := ti_sub (by show _ ≤ _ - (1 : Int); omega) (by show _ - (1 : Int) < _; omega)
    obtain ⟨j, hj, rfl⟩ := jnat (N := 5) e1 (by omega)
    have h31 : j < 2147483648 := by omega
    have h6 : j < 6 := by omega
    have hai : isAnt (12 + j) := by unfold isAnt; omega
    have hv : vp_in (nI j) 6 := vp_in_nI h6 (by decide)
    rw [nI_clamp h31] at hT1
    simp only [sg_X6_told_0, sg_X6_told_18, sg_X6_told_48, sg_X6_told_58, sg_X6_told_68, sg_X6_told_78, sg_X6_told_88, cd_X6_told, jwp, o_ic, o_lc, o_iload, o_lload, o_aload, o_istore, o_lstore, o_astore, o_iinc, o_pop, o_dup, o_dup2, o_iadd, o_isub, o_imul, o_iand, o_ior, o_ishl, o_ladd, o_lmul, o_land, o_lor, o_idiv, o_irem, o_ineg, o_i2l, o_l2i, o_i2b, o_i2s, o_lushr, o_lshr, o_lshl, o_lcmp, o_ifeq, o_ifne, o_iflt, o_ifge, o_ifgt, o_ifle, o_iceq, o_icne, o_iclt, o_icge, o_icgt, o_icle, o_goto, o_tsw, jsw, o_lsw, jlk, o_getf, o_putf, o_putz, o_iald, o_zald, o_iast, o_zast, o_aald, o_alen, o_gets, o_zld, o_zlen, o_cpy, o_call, o_callV, o_ireti, o_iretz, o_lret, o_vret, jg, js, jkp, jkill, jsp, jcs, jfw, jov, Value.category, Option.toList_some, Option.toList_none, List.nil_append, List.cons_append, List.append_nil, Nat.reduceAdd, true_and, and_true, jb0, jb01, jb1, jem, true_or, or_true, Classical.not_not, forall_const, List.length_cons, List.length_nil, Nat.reduceLeDiff, Nat.zero_le, Nat.reduceLT, and_self, not_true_eq_false, not_false_eq_true, false_imp_iff, true_imp_iff, implies_true, and_false, false_and, or_false, false_or, hX, kx_0_0 hX, kx_0_1 hX, kx_0_2 hX, kx_0_3 hX, kx_0_4 hX, kx_0_5 hX, kx_0_6 hX, kx_0_7 hX, kx_0_8 hX, kxo_0 hX, kx_1_0 hX, kx_1_1 hX, kx_1_2 hX, kx_1_3 hX, kxo_1 hX, kx_4_0 hX, kx_4_1 hX, kx_4_2 hX, kxo_4 hX, kx_19_0 hX, kx_19_1 hX, kx_19_2 hX, kx_19_3 hX, kx_19_4 hX, kxo_19 hX, kx_24_0 hX, kx_24_1 hX, kx_24_2 hX, kx_24_3 hX, kx_24_4 hX, kx_24_5 hX, kx_24_6 hX, kxo_24 hX, kxa_2 hX, kxa_3 hX, kxa_6 hX, kxa_7 hX, kxa_8 hX, kxa_9 hX, kxa_10 hX, kxa_18 hX, kxa_20 hX, kxa_21 hX, kxa_22 hX, kxa_23 hX, kxa_26 hX, kxa_27 hX, kxr_5 hX, kxr_11 hX, kxr_28 hX, T_X6_isWithin, c1, nI_clamp h31, kx_ants h6, hv, kxn_0 hX hai, kxn_1 hX hai, kxn_2 hX hai, kxn_3 hX hai]
    grind
  · have hT0 := hT0 c1
    simp only [sg_X6_told_0, sg_X6_told_18, sg_X6_told_48, sg_X6_told_58, sg_X6_told_68, sg_X6_told_78, sg_X6_told_88, cd_X6_told, jwp, o_ic, o_lc, o_iload, o_lload, o_aload, o_istore, o_lstore, o_astore, o_iinc, o_pop, o_dup, o_dup2, o_iadd, o_isub, o_imul, o_iand, o_ior, o_ishl, o_ladd, o_lmul, o_land, o_lor, o_idiv, o_irem, o_ineg, o_i2l, o_l2i, o_i2b, o_i2s, o_lushr, o_lshr, o_lshl, o_lcmp, o_ifeq, o_ifne, o_iflt, o_ifge, o_ifgt, o_ifle, o_iceq, o_icne, o_iclt, o_icge, o_icgt, o_icle, o_goto, o_tsw, jsw, o_lsw, jlk, o_getf, o_putf, o_putz, o_iald, o_zald, o_iast, o_zast, o_aald, o_alen, o_gets, o_zld, o_zlen, o_cpy, o_call, o_callV, o_ireti, o_iretz, o_lret, o_vret, jg, js, jkp, jkill, jsp, jcs, jfw, jov, Value.category, Option.toList_some, Option.toList_none, List.nil_append, List.cons_append, List.append_nil, Nat.reduceAdd, true_and, and_true, jb0, jb01, jb1, jem, true_or, or_true, Classical.not_not, forall_const, List.length_cons, List.length_nil, Nat.reduceLeDiff, Nat.zero_le, Nat.reduceLT, and_self, not_true_eq_false, not_false_eq_true, false_imp_iff, true_imp_iff, implies_true, and_false, false_and, or_false, false_or, hX, kx_0_0 hX, kx_0_1 hX, kx_0_2 hX, kx_0_3 hX, kx_0_4 hX, kx_0_5 hX, kx_0_6 hX, kx_0_7 hX, kx_0_8 hX, kxo_0 hX, kx_1_0 hX, kx_1_1 hX, kx_1_2 hX, kx_1_3 hX, kxo_1 hX, kx_4_0 hX, kx_4_1 hX, kx_4_2 hX, kxo_4 hX, kx_19_0 hX, kx_19_1 hX, kx_19_2 hX, kx_19_3 hX, kx_19_4 hX, kxo_19 hX, kx_24_0 hX, kx_24_1 hX, kx_24_2 hX, kx_24_3 hX, kx_24_4 hX, kx_24_5 hX, kx_24_6 hX, kxo_24 hX, kxa_2 hX, kxa_3 hX, kxa_6 hX, kxa_7 hX, kxa_8 hX, kxa_9 hX, kxa_10 hX, kxa_18 hX, kxa_20 hX, kxa_21 hX, kxa_22 hX, kxa_23 hX, kxa_26 hX, kxa_27 hX, kxr_5 hX, kxr_11 hX, kxr_28 hX, T_X6_isWithin, c1]
    exact hT0
theorem m_X6_told (l : Launch) : jHolds vwCl l yX6_told wsX6_told 1 22 0 0 T_X6_told := by
  refine m_X6_told_of l (fun G Q vs K h H0 hT => ?_)
  unfold T_X6_told at hT
  split at hT
  · obtain ⟨rfl, hT⟩ := hT
    exact ⟨Nat.le_of_ble_eq_true rfl, v_X6_told hT H0⟩
  · exact hT.elim



/-! X6_count -/
noncomputable def cCount (h : jM) (w : Int32) : Int32 := if w.toInt = 0 then h 0 7 else if w.toInt = 1 then 57600 - nI (jcnt (fun k => h 2 k = 0) 57600) else if w.toInt = 2 then h 19 0 else if w.toInt = 3 then 57600 - nI (jcnt (fun k => h 3 k = 0) 57600) else if w.toInt = 4 then h 1 1 else if w.toInt = 5 then h 1 0 else @ite Int32 (10 ≤ w ∧ w ≤ 10 + h 1 1 - 1) (Classical.propDecidable _) (nI (jcnt (fun k => h 2 k = w - 10) 57600)) (-1)
def T_X6_count : jT := fun vs K h Q => match vs with
  | [.ref r0, .int w] => r0 = 0 ∧ (jX K ∧ Q (some (.int (cCount h w))) K h)
  | _ => False
def sg_X6_count_0 : jS := [(o_iload 1, 1), (o_tsw (0) 99 [40, 45, 60, 68, 83, 91], 39)]
def sg_X6_count_40 : jS := [(o_aload 0, 1), (o_getf 6 7, 3), (o_ireti, 1)]
def sg_X6_count_45 : jS := [(o_ic (57600), 2), (o_aload 0, 1), (o_getf 6 0, 3), (o_getf 1 2, 3), (o_ic (0), 1), (o_call 2 T_X6_howMany, 3), (o_isub, 1), (o_ireti, 1)]
def sg_X6_count_60 : jS := [(o_aload 0, 1), (o_getf 6 4, 3), (o_getf 3 0, 3), (o_ireti, 1)]
def sg_X6_count_68 : jS := [(o_ic (57600), 2), (o_aload 0, 1), (o_getf 6 0, 3), (o_getf 1 3, 3), (o_ic (0), 1), (o_call 2 T_X6_howMany, 3), (o_isub, 1), (o_ireti, 1)]
def sg_X6_count_83 : jS := [(o_aload 0, 1), (o_getf 6 0, 3), (o_getf 1 1, 3), (o_ireti, 1)]
def sg_X6_count_91 : jS := [(o_aload 0, 1), (o_getf 6 0, 3), (o_getf 1 0, 3), (o_ireti, 1)]
def sg_X6_count_99 : jS := [(o_iload 1, 1), (o_ic (10), 2), (o_ic (10), 2), (o_aload 0, 1), (o_getf 6 0, 3), (o_getf 1 1, 3), (o_iadd, 1), (o_ic (1), 1), (o_isub, 1), (o_call 3 T_X6_isWithin, 3), (o_ifne 122, 3), (o_ic (-1), 1), (o_ireti, 1)]
def sg_X6_count_122 : jS := [(o_aload 0, 1), (o_getf 6 0, 3), (o_getf 1 2, 3), (o_iload 1, 1), (o_ic (10), 2), (o_isub, 1), (o_call 2 T_X6_howMany, 3), (o_ireti, 1)]
def cd_X6_count : Nat → jS := fun t => match t with
  | 40 => sg_X6_count_40
  | 45 => sg_X6_count_45
  | 60 => sg_X6_count_60
  | 68 => sg_X6_count_68
  | 83 => sg_X6_count_83
  | 91 => sg_X6_count_91
  | 99 => sg_X6_count_99
  | 122 => sg_X6_count_122
  | _ => []
theorem wl_X6_count_12 : Cond.fieldLink RX6 12 (TX6 0).1 (TX6 0).2.1 (TX6 0).2.2.1 ∈ wsX6_count := by decide +kernel
theorem wl_X6_count_37 : Cond.fieldLink RX6 37 (TX6 4).1 (TX6 4).2.1 (TX6 4).2.2.1 ∈ wsX6_count := by decide +kernel
theorem wl_X6_count_67 : Cond.fieldLink RX6 67 (TX6 7).1 (TX6 7).2.1 (TX6 7).2.2.1 ∈ wsX6_count := by decide +kernel
theorem wl_X6_count_90 : Cond.fieldLink RX6 90 (TX1 1).1 (TX1 1).2.1 (TX1 1).2.2.1 ∈ wsX6_count := by decide +kernel
theorem wl_X6_count_111 : Cond.fieldLink RX6 111 (TX1 2).1 (TX1 2).2.1 (TX1 2).2.2.1 ∈ wsX6_count := by decide +kernel
theorem wl_X6_count_150 : Cond.fieldLink RX6 150 (TX1 3).1 (TX1 3).2.1 (TX1 3).2.2.1 ∈ wsX6_count := by decide +kernel
theorem wl_X6_count_158 : Cond.fieldLink RX6 158 (TX3 0).1 (TX3 0).2.1 (TX3 0).2.2.1 ∈ wsX6_count := by decide +kernel
theorem wl_X6_count_161 : Cond.fieldLink RX6 161 (TX1 0).1 (TX1 0).2.1 (TX1 0).2.2.1 ∈ wsX6_count := by decide +kernel
theorem wi_X6_count_X1 : ∀ w ∈ u_ws RX1 TX1 4, w ∈ wsX6_count := by decide +kernel
theorem wi_X6_count_X3 : ∀ w ∈ u_ws RX3 TX3 5, w ∈ wsX6_count := by decide +kernel
theorem wi_X6_count_X6 : ∀ w ∈ u_ws RX6 TX6 9, w ∈ wsX6_count := by decide +kernel
def E_X6_count (Γ : jΓ) (Q : jPost) : Prop := Γ.2.2.2.2.2.2.2.2.2.2.1 = 2 ∧ Γ.2.2.2.2.2.2.2.2.2.2.2.1 = vwCl ∧ jC Γ cX6_count RX6 "count" (some .int) wsX6_count 1 23 0 0 ∧ jR Γ Q 0 0
theorem oo_X6_count_0 {Γ : jΓ} {Q : jPost} (E : E_X6_count Γ Q) : jSA Γ Q 0 (o_iload 1) 1 := so_iload_n E.2.2.1 rfl dX6_count_0
theorem oo_X6_count_1 {Γ : jΓ} {Q : jPost} (E : E_X6_count Γ Q) : jSA Γ Q 1 (o_tsw (0) 99 [40, 45, 60, 68, 83, 91]) 39 := so_tsw E.2.2.1 (by decide) (by decide) (by decide) dX6_count_1
theorem oo_X6_count_40 {Γ : jΓ} {Q : jPost} (E : E_X6_count Γ Q) : jSA Γ Q 40 (o_aload 0) 1 := so_aload_n E.2.2.1 rfl dX6_count_40
theorem oo_X6_count_41 {Γ : jΓ} {Q : jPost} (E : E_X6_count Γ Q) : jSA Γ Q 41 (o_getf 6 7) 3 := so_getf (ci := 6) E.2.2.1 wi_X6_count_X6 (by rw [E.2.1]; rfl) 7 (by decide) wl_X6_count_67 dX6_count_41
theorem oo_X6_count_44 {Γ : jΓ} {Q : jPost} (E : E_X6_count Γ Q) : jSA Γ Q 44 (o_ireti) 1 := so_ireti E.2.2.1 E.2.2.2 dX6_count_44
theorem oo_X6_count_45 {Γ : jΓ} {Q : jPost} (E : E_X6_count Γ Q) : jSA Γ Q 45 (o_ic (57600)) 2 := so_ldc E.2.2.1 (by decide +kernel) dX6_count_45
theorem oo_X6_count_47 {Γ : jΓ} {Q : jPost} (E : E_X6_count Γ Q) : jSA Γ Q 47 (o_aload 0) 1 := so_aload_n E.2.2.1 rfl dX6_count_47
theorem oo_X6_count_48 {Γ : jΓ} {Q : jPost} (E : E_X6_count Γ Q) : jSA Γ Q 48 (o_getf 6 0) 3 := so_getf (ci := 6) E.2.2.1 wi_X6_count_X6 (by rw [E.2.1]; rfl) 0 (by decide) wl_X6_count_12 dX6_count_48
theorem oo_X6_count_51 {Γ : jΓ} {Q : jPost} (E : E_X6_count Γ Q) : jSA Γ Q 51 (o_getf 1 2) 3 := so_getf (ci := 1) E.2.2.1 wi_X6_count_X1 (by rw [E.2.1]; rfl) 2 (by decide) wl_X6_count_111 dX6_count_51
theorem oo_X6_count_54 {Γ : jΓ} {Q : jPost} (E : E_X6_count Γ Q) : jSA Γ Q 54 (o_ic (0)) 1 := so_iconst E.2.2.1 rfl dX6_count_54
theorem oo_X6_count_55 {Γ : jΓ} {Q : jPost} (E : E_X6_count Γ Q) : jSA Γ Q 55 (o_call 2 T_X6_howMany) 3 := so_callS E.2.2.1 gX6_count_X6_howMany (by decide +kernel) rfl (by rw [E.2.1]; exact m_X6_howMany _) (by decide) (by decide) dX6_count_55
theorem oo_X6_count_58 {Γ : jΓ} {Q : jPost} (E : E_X6_count Γ Q) : jSA Γ Q 58 (o_isub) 1 := so_isub E.2.2.1 dX6_count_58
theorem oo_X6_count_59 {Γ : jΓ} {Q : jPost} (E : E_X6_count Γ Q) : jSA Γ Q 59 (o_ireti) 1 := so_ireti E.2.2.1 E.2.2.2 dX6_count_59
theorem oo_X6_count_60 {Γ : jΓ} {Q : jPost} (E : E_X6_count Γ Q) : jSA Γ Q 60 (o_aload 0) 1 := so_aload_n E.2.2.1 rfl dX6_count_60
theorem oo_X6_count_61 {Γ : jΓ} {Q : jPost} (E : E_X6_count Γ Q) : jSA Γ Q 61 (o_getf 6 4) 3 := so_getf (ci := 6) E.2.2.1 wi_X6_count_X6 (by rw [E.2.1]; rfl) 4 (by decide) wl_X6_count_37 dX6_count_61
theorem oo_X6_count_64 {Γ : jΓ} {Q : jPost} (E : E_X6_count Γ Q) : jSA Γ Q 64 (o_getf 3 0) 3 := so_getf (ci := 3) E.2.2.1 wi_X6_count_X3 (by rw [E.2.1]; rfl) 0 (by decide) wl_X6_count_158 dX6_count_64
theorem oo_X6_count_67 {Γ : jΓ} {Q : jPost} (E : E_X6_count Γ Q) : jSA Γ Q 67 (o_ireti) 1 := so_ireti E.2.2.1 E.2.2.2 dX6_count_67
theorem oo_X6_count_68 {Γ : jΓ} {Q : jPost} (E : E_X6_count Γ Q) : jSA Γ Q 68 (o_ic (57600)) 2 := so_ldc E.2.2.1 (by decide +kernel) dX6_count_68
theorem oo_X6_count_70 {Γ : jΓ} {Q : jPost} (E : E_X6_count Γ Q) : jSA Γ Q 70 (o_aload 0) 1 := so_aload_n E.2.2.1 rfl dX6_count_70
theorem oo_X6_count_71 {Γ : jΓ} {Q : jPost} (E : E_X6_count Γ Q) : jSA Γ Q 71 (o_getf 6 0) 3 := so_getf (ci := 6) E.2.2.1 wi_X6_count_X6 (by rw [E.2.1]; rfl) 0 (by decide) wl_X6_count_12 dX6_count_71
theorem oo_X6_count_74 {Γ : jΓ} {Q : jPost} (E : E_X6_count Γ Q) : jSA Γ Q 74 (o_getf 1 3) 3 := so_getf (ci := 1) E.2.2.1 wi_X6_count_X1 (by rw [E.2.1]; rfl) 3 (by decide) wl_X6_count_150 dX6_count_74
theorem oo_X6_count_77 {Γ : jΓ} {Q : jPost} (E : E_X6_count Γ Q) : jSA Γ Q 77 (o_ic (0)) 1 := so_iconst E.2.2.1 rfl dX6_count_77
theorem oo_X6_count_78 {Γ : jΓ} {Q : jPost} (E : E_X6_count Γ Q) : jSA Γ Q 78 (o_call 2 T_X6_howMany) 3 := so_callS E.2.2.1 gX6_count_X6_howMany (by decide +kernel) rfl (by rw [E.2.1]; exact m_X6_howMany _) (by decide) (by decide) dX6_count_78
theorem oo_X6_count_81 {Γ : jΓ} {Q : jPost} (E : E_X6_count Γ Q) : jSA Γ Q 81 (o_isub) 1 := so_isub E.2.2.1 dX6_count_81
theorem oo_X6_count_82 {Γ : jΓ} {Q : jPost} (E : E_X6_count Γ Q) : jSA Γ Q 82 (o_ireti) 1 := so_ireti E.2.2.1 E.2.2.2 dX6_count_82
theorem oo_X6_count_83 {Γ : jΓ} {Q : jPost} (E : E_X6_count Γ Q) : jSA Γ Q 83 (o_aload 0) 1 := so_aload_n E.2.2.1 rfl dX6_count_83
theorem oo_X6_count_84 {Γ : jΓ} {Q : jPost} (E : E_X6_count Γ Q) : jSA Γ Q 84 (o_getf 6 0) 3 := so_getf (ci := 6) E.2.2.1 wi_X6_count_X6 (by rw [E.2.1]; rfl) 0 (by decide) wl_X6_count_12 dX6_count_84
theorem oo_X6_count_87 {Γ : jΓ} {Q : jPost} (E : E_X6_count Γ Q) : jSA Γ Q 87 (o_getf 1 1) 3 := so_getf (ci := 1) E.2.2.1 wi_X6_count_X1 (by rw [E.2.1]; rfl) 1 (by decide) wl_X6_count_90 dX6_count_87
theorem oo_X6_count_90 {Γ : jΓ} {Q : jPost} (E : E_X6_count Γ Q) : jSA Γ Q 90 (o_ireti) 1 := so_ireti E.2.2.1 E.2.2.2 dX6_count_90
theorem oo_X6_count_91 {Γ : jΓ} {Q : jPost} (E : E_X6_count Γ Q) : jSA Γ Q 91 (o_aload 0) 1 := so_aload_n E.2.2.1 rfl dX6_count_91
theorem oo_X6_count_92 {Γ : jΓ} {Q : jPost} (E : E_X6_count Γ Q) : jSA Γ Q 92 (o_getf 6 0) 3 := so_getf (ci := 6) E.2.2.1 wi_X6_count_X6 (by rw [E.2.1]; rfl) 0 (by decide) wl_X6_count_12 dX6_count_92
theorem oo_X6_count_95 {Γ : jΓ} {Q : jPost} (E : E_X6_count Γ Q) : jSA Γ Q 95 (o_getf 1 0) 3 := so_getf (ci := 1) E.2.2.1 wi_X6_count_X1 (by rw [E.2.1]; rfl) 0 (by decide) wl_X6_count_161 dX6_count_95
theorem oo_X6_count_98 {Γ : jΓ} {Q : jPost} (E : E_X6_count Γ Q) : jSA Γ Q 98 (o_ireti) 1 := so_ireti E.2.2.1 E.2.2.2 dX6_count_98
theorem oo_X6_count_99 {Γ : jΓ} {Q : jPost} (E : E_X6_count Γ Q) : jSA Γ Q 99 (o_iload 1) 1 := so_iload_n E.2.2.1 rfl dX6_count_99
theorem oo_X6_count_100 {Γ : jΓ} {Q : jPost} (E : E_X6_count Γ Q) : jSA Γ Q 100 (o_ic (10)) 2 := so_bipush E.2.2.1 rfl dX6_count_100
theorem oo_X6_count_102 {Γ : jΓ} {Q : jPost} (E : E_X6_count Γ Q) : jSA Γ Q 102 (o_ic (10)) 2 := so_bipush E.2.2.1 rfl dX6_count_102
theorem oo_X6_count_104 {Γ : jΓ} {Q : jPost} (E : E_X6_count Γ Q) : jSA Γ Q 104 (o_aload 0) 1 := so_aload_n E.2.2.1 rfl dX6_count_104
theorem oo_X6_count_105 {Γ : jΓ} {Q : jPost} (E : E_X6_count Γ Q) : jSA Γ Q 105 (o_getf 6 0) 3 := so_getf (ci := 6) E.2.2.1 wi_X6_count_X6 (by rw [E.2.1]; rfl) 0 (by decide) wl_X6_count_12 dX6_count_105
theorem oo_X6_count_108 {Γ : jΓ} {Q : jPost} (E : E_X6_count Γ Q) : jSA Γ Q 108 (o_getf 1 1) 3 := so_getf (ci := 1) E.2.2.1 wi_X6_count_X1 (by rw [E.2.1]; rfl) 1 (by decide) wl_X6_count_90 dX6_count_108
theorem oo_X6_count_111 {Γ : jΓ} {Q : jPost} (E : E_X6_count Γ Q) : jSA Γ Q 111 (o_iadd) 1 := so_iadd E.2.2.1 dX6_count_111
theorem oo_X6_count_112 {Γ : jΓ} {Q : jPost} (E : E_X6_count Γ Q) : jSA Γ Q 112 (o_ic (1)) 1 := so_iconst E.2.2.1 rfl dX6_count_112
theorem oo_X6_count_113 {Γ : jΓ} {Q : jPost} (E : E_X6_count Γ Q) : jSA Γ Q 113 (o_isub) 1 := so_isub E.2.2.1 dX6_count_113
theorem oo_X6_count_114 {Γ : jΓ} {Q : jPost} (E : E_X6_count Γ Q) : jSA Γ Q 114 (o_call 3 T_X6_isWithin) 3 := so_callS E.2.2.1 gX6_count_X6_isWithin (by decide +kernel) rfl (by rw [E.2.1]; exact m_X6_isWithin _) (by decide) (by decide) dX6_count_114
theorem oo_X6_count_117 {Γ : jΓ} {Q : jPost} (E : E_X6_count Γ Q) : jSA Γ Q 117 (o_ifne 122) 3 := so_ifne E.2.2.1 (by decide) dX6_count_117
theorem oo_X6_count_120 {Γ : jΓ} {Q : jPost} (E : E_X6_count Γ Q) : jSA Γ Q 120 (o_ic (-1)) 1 := so_iconst E.2.2.1 rfl dX6_count_120
theorem oo_X6_count_121 {Γ : jΓ} {Q : jPost} (E : E_X6_count Γ Q) : jSA Γ Q 121 (o_ireti) 1 := so_ireti E.2.2.1 E.2.2.2 dX6_count_121
theorem oo_X6_count_122 {Γ : jΓ} {Q : jPost} (E : E_X6_count Γ Q) : jSA Γ Q 122 (o_aload 0) 1 := so_aload_n E.2.2.1 rfl dX6_count_122
theorem oo_X6_count_123 {Γ : jΓ} {Q : jPost} (E : E_X6_count Γ Q) : jSA Γ Q 123 (o_getf 6 0) 3 := so_getf (ci := 6) E.2.2.1 wi_X6_count_X6 (by rw [E.2.1]; rfl) 0 (by decide) wl_X6_count_12 dX6_count_123
theorem oo_X6_count_126 {Γ : jΓ} {Q : jPost} (E : E_X6_count Γ Q) : jSA Γ Q 126 (o_getf 1 2) 3 := so_getf (ci := 1) E.2.2.1 wi_X6_count_X1 (by rw [E.2.1]; rfl) 2 (by decide) wl_X6_count_111 dX6_count_126
theorem oo_X6_count_129 {Γ : jΓ} {Q : jPost} (E : E_X6_count Γ Q) : jSA Γ Q 129 (o_iload 1) 1 := so_iload_n E.2.2.1 rfl dX6_count_129
theorem oo_X6_count_130 {Γ : jΓ} {Q : jPost} (E : E_X6_count Γ Q) : jSA Γ Q 130 (o_ic (10)) 2 := so_bipush E.2.2.1 rfl dX6_count_130
theorem oo_X6_count_132 {Γ : jΓ} {Q : jPost} (E : E_X6_count Γ Q) : jSA Γ Q 132 (o_isub) 1 := so_isub E.2.2.1 dX6_count_132
theorem oo_X6_count_133 {Γ : jΓ} {Q : jPost} (E : E_X6_count Γ Q) : jSA Γ Q 133 (o_call 2 T_X6_howMany) 3 := so_callS E.2.2.1 gX6_count_X6_howMany (by decide +kernel) rfl (by rw [E.2.1]; exact m_X6_howMany _) (by decide) (by decide) dX6_count_133
theorem oo_X6_count_136 {Γ : jΓ} {Q : jPost} (E : E_X6_count Γ Q) : jSA Γ Q 136 (o_ireti) 1 := so_ireti E.2.2.1 E.2.2.2 dX6_count_136
theorem ok_X6_count_0 {Γ : jΓ} {Q : jPost} (E : E_X6_count Γ Q) : jSS Γ Q 0 sg_X6_count_0 := ⟨oo_X6_count_0 E, oo_X6_count_1 E, trivial⟩
theorem ok_X6_count_40 {Γ : jΓ} {Q : jPost} (E : E_X6_count Γ Q) : jSS Γ Q 40 sg_X6_count_40 := ⟨oo_X6_count_40 E, oo_X6_count_41 E, oo_X6_count_44 E, trivial⟩
theorem ok_X6_count_45 {Γ : jΓ} {Q : jPost} (E : E_X6_count Γ Q) : jSS Γ Q 45 sg_X6_count_45 := ⟨oo_X6_count_45 E, oo_X6_count_47 E, oo_X6_count_48 E, oo_X6_count_51 E, oo_X6_count_54 E, oo_X6_count_55 E, oo_X6_count_58 E, oo_X6_count_59 E, trivial⟩
theorem ok_X6_count_60 {Γ : jΓ} {Q : jPost} (E : E_X6_count Γ Q) : jSS Γ Q 60 sg_X6_count_60 := ⟨oo_X6_count_60 E, oo_X6_count_61 E, oo_X6_count_64 E, oo_X6_count_67 E, trivial⟩
theorem ok_X6_count_68 {Γ : jΓ} {Q : jPost} (E : E_X6_count Γ Q) : jSS Γ Q 68 sg_X6_count_68 := ⟨oo_X6_count_68 E, oo_X6_count_70 E, oo_X6_count_71 E, oo_X6_count_74 E, oo_X6_count_77 E, oo_X6_count_78 E, oo_X6_count_81 E, oo_X6_count_82 E, trivial⟩
theorem ok_X6_count_83 {Γ : jΓ} {Q : jPost} (E : E_X6_count Γ Q) : jSS Γ Q 83 sg_X6_count_83 := ⟨oo_X6_count_83 E, oo_X6_count_84 E, oo_X6_count_87 E, oo_X6_count_90 E, trivial⟩
theorem ok_X6_count_91 {Γ : jΓ} {Q : jPost} (E : E_X6_count Γ Q) : jSS Γ Q 91 sg_X6_count_91 := ⟨oo_X6_count_91 E, oo_X6_count_92 E, oo_X6_count_95 E, oo_X6_count_98 E, trivial⟩
theorem ok_X6_count_99 {Γ : jΓ} {Q : jPost} (E : E_X6_count Γ Q) : jSS Γ Q 99 sg_X6_count_99 := ⟨oo_X6_count_99 E, oo_X6_count_100 E, oo_X6_count_102 E, oo_X6_count_104 E, oo_X6_count_105 E, oo_X6_count_108 E, oo_X6_count_111 E, oo_X6_count_112 E, oo_X6_count_113 E, oo_X6_count_114 E, oo_X6_count_117 E, oo_X6_count_120 E, oo_X6_count_121 E, trivial⟩
theorem ok_X6_count_122 {Γ : jΓ} {Q : jPost} (E : E_X6_count Γ Q) : jSS Γ Q 122 sg_X6_count_122 := ⟨oo_X6_count_122 E, oo_X6_count_123 E, oo_X6_count_126 E, oo_X6_count_129 E, oo_X6_count_130 E, oo_X6_count_132 E, oo_X6_count_133 E, oo_X6_count_136 E, trivial⟩
theorem okc_X6_count {Γ : jΓ} {Q : jPost} (E : E_X6_count Γ Q) (t : Nat) : jSS Γ Q t (cd_X6_count t) := by
  unfold cd_X6_count
  split
  · exact ok_X6_count_40 E
  · exact ok_X6_count_45 E
  · exact ok_X6_count_60 E
  · exact ok_X6_count_68 E
  · exact ok_X6_count_83 E
  · exact ok_X6_count_91 E
  · exact ok_X6_count_99 E
  · exact ok_X6_count_122 E
  · trivial
theorem m_X6_count_of (l : Launch) (hv : ∀ (G : jGt) (Q : jPost) (vs : List Value) (K : List jK) (h : jM), jHd cd_X6_count G Q sg_X6_count_0 0 → T_X6_count vs K h Q → (lg_sl vs).length ≤ 2 ∧ G 0 (jinit vs 2) [] K h 0 0) : jHolds vwCl l yX6_count wsX6_count 1 23 0 0 T_X6_count := by
  refine jMet (cc := cX6_count) (maxL := 2) (rt := (some .int)) (by decide +kernel) rfl (fun Γ Q vs K h hl hn hcl C hR hT => hv (jG Γ) Q vs K h ?_ hT)
  · exact fun n L st K h ce sl => jwp_ok (okc_X6_count ⟨hn, hcl, C, hR⟩) n sg_X6_count_0 0 (ok_X6_count_0 ⟨hn, hcl, C, hR⟩) L st K h ce sl
set_option maxHeartbeats 4000000 in
set_option maxRecDepth 100000 in
theorem v_X6_count {G : jGt} {Q : jPost} {K : List jK} {h : jM} {w : Int32} (hT : jX K ∧ Q (some (.int (cCount h w))) K h) (H0 : jHd cd_X6_count G Q sg_X6_count_0 0) : G 0 [some (.ref 0), some (.int w)] [] K h 0 0 := by
  obtain ⟨hX, hT⟩ := hT
  refine H0 80 _ _ _ _ _ _ ?_
  simp only [sg_X6_count_0, sg_X6_count_40, sg_X6_count_45, sg_X6_count_60, sg_X6_count_68, sg_X6_count_83, sg_X6_count_91, sg_X6_count_99, sg_X6_count_122, cd_X6_count, jwp, o_ic, o_lc, o_iload, o_lload, o_aload, o_istore, o_lstore, o_astore, o_iinc, o_pop, o_dup, o_dup2, o_iadd, o_isub, o_imul, o_iand, o_ior, o_ishl, o_ladd, o_lmul, o_land, o_lor, o_idiv, o_irem, o_ineg, o_i2l, o_l2i, o_i2b, o_i2s, o_lushr, o_lshr, o_lshl, o_lcmp, o_ifeq, o_ifne, o_iflt, o_ifge, o_ifgt, o_ifle, o_iceq, o_icne, o_iclt, o_icge, o_icgt, o_icle, o_goto, o_tsw, jsw, o_lsw, jlk, o_getf, o_putf, o_putz, o_iald, o_zald, o_iast, o_zast, o_aald, o_alen, o_gets, o_zld, o_zlen, o_cpy, o_call, o_callV, o_ireti, o_iretz, o_lret, o_vret, jg, js, jkp, jkill, jsp, jcs, jfw, jov, Value.category, Option.toList_some, Option.toList_none, List.nil_append, List.cons_append, List.append_nil, Nat.reduceAdd, true_and, and_true, jb0, jb01, jb1, jem, true_or, or_true, Classical.not_not, forall_const, List.length_cons, List.length_nil, Nat.reduceLeDiff, Nat.zero_le, Nat.reduceLT, and_self, not_true_eq_false, not_false_eq_true, false_imp_iff, true_imp_iff, implies_true, and_false, false_and, or_false, false_or, hX, kx_0_0 hX, kx_0_1 hX, kx_0_2 hX, kx_0_3 hX, kx_0_4 hX, kx_0_5 hX, kx_0_6 hX, kx_0_7 hX, kx_0_8 hX, kxo_0 hX, kx_1_0 hX, kx_1_1 hX, kx_1_2 hX, kx_1_3 hX, kxo_1 hX, kx_4_0 hX, kx_4_1 hX, kx_4_2 hX, kxo_4 hX, kx_19_0 hX, kx_19_1 hX, kx_19_2 hX, kx_19_3 hX, kx_19_4 hX, kxo_19 hX, kx_24_0 hX, kx_24_1 hX, kx_24_2 hX, kx_24_3 hX, kx_24_4 hX, kx_24_5 hX, kx_24_6 hX, kxo_24 hX, kxa_2 hX, kxa_3 hX, kxa_6 hX, kxa_7 hX, kxa_8 hX, kxa_9 hX, kxa_10 hX, kxa_18 hX, kxa_20 hX, kxa_21 hX, kxa_22 hX, kxa_23 hX, kxa_26 hX, kxa_27 hX, kxr_5 hX, kxr_11 hX, kxr_28 hX, T_X6_isWithin, T_X6_howMany]
  unfold cCount at hT
  refine ⟨?_, ?_, ?_, ?_, ?_, ?_, ?_⟩
  · intro c
    rw [if_neg (by omega), if_neg (by omega), if_neg (by omega), if_neg (by omega), if_neg (by omega), if_neg (by omega)] at hT
    refine ⟨fun c2 => ?_, fun c2 => ?_⟩
    · rw [if_pos c2] at hT; first | exact hT | exact ⟨by decide, hT⟩
    · rw [if_neg c2] at hT; exact hT
  · intro c
    rw [if_pos c] at hT
    exact hT
  · intro c
    rw [if_neg (by omega), if_pos (by omega)] at hT
    first | exact hT | exact ⟨by decide, hT⟩ | exact ⟨by decide, by decide, hT⟩
  · intro c
    rw [if_neg (by omega), if_neg (by omega), if_pos (by omega)] at hT
    exact hT
  · intro c
    rw [if_neg (by omega), if_neg (by omega), if_neg (by omega), if_pos (by omega)] at hT
    first | exact hT | exact ⟨by decide, hT⟩ | exact ⟨by decide, by decide, hT⟩
  · intro c
    rw [if_neg (by omega), if_neg (by omega), if_neg (by omega), if_neg (by omega), if_pos (by omega)] at hT
    exact hT
  · intro c
    rw [if_neg (by omega), if_neg (by omega), if_neg (by omega), if_neg (by omega), if_neg (by omega), if_pos (by omega)] at hT
    exact hT
theorem m_X6_count (l : Launch) : jHolds vwCl l yX6_count wsX6_count 1 23 0 0 T_X6_count := by
  refine m_X6_count_of l (fun G Q vs K h H0 hT => ?_)
  unfold T_X6_count at hT
  split at hT
  · obtain ⟨rfl, hT⟩ := hT
    exact ⟨Nat.le_of_ble_eq_true rfl, v_X6_count hT H0⟩
  · exact hT.elim

def jbo (r : Int32) : Int32 := if r < 0 then -1001 else r + -120
