/-! ===== the reference's steps ===== -/
/-- nothing but colours, ants and where acts began is touched -/
def frM (h g : jM) : Prop := ∀ c, ¬ c = 38 → ¬ c = 42 → ¬ c = 43 → ¬ c = 44 → ¬ c = 46 → g c = h c
theorem frM_rf (h : jM) : frM h h := fun _ _ _ _ _ _ => rfl
theorem frM_tr {h g k : jM} (h1 : frM h g) (h2 : frM g k) : frM h k := fun c a b d e f => (h2 c a b d e f).trans (h1 c a b d e f)
theorem frM_act (h : jM) (A : Nat) : frM h (mActM h A) := fun c a b d e f => mAct_o h ⟨a, b, d, e, f⟩
theorem frM_back (h : jM) (A : Nat) : frM h (mBackM h A) := fun c a b d e f => mBack_o h ⟨a, b, d, e, f⟩

/-! X7_meet -/
def mKeep (h : jM) (w x y b : Int32) : jM := if h 37 14 < 60 then up2 (up2 (up2 (up2 (up2 h 47 (h 37 14).toNatClampNeg w) 48 (h 37 14).toNatClampNeg x) 49 (h 37 14).toNatClampNeg y) 50 (h 37 14).toNatClampNeg b) 37 14 (h 37 14 + 1) else up2 h 37 14 (h 37 14 + 1)
/-- the meetings of ants 0 .. i - 1, as the reference notes them -/
noncomputable def mMt (h : jM) (cnt : Nat) : Nat → jM
  | 0 => h
  | i + 1 => @ite jM ((∀ q, q < i → ¬ (cut6 (h 42) q = cut6 (h 42) i ∧ cut6 (h 43) q = cut6 (h 43) i)) ∧ ¬ jwho (cut6 (h 42)) (cut6 (h 43)) i cnt = jbit i) (Classical.propDecidable _) (mKeep (mMt h cnt i) (h 37 4) (cut6 (h 42) i) (cut6 (h 43) i) (jwho (cut6 (h 42)) (cut6 (h 43)) i cnt)) (mMt h cnt i)
theorem mMt_s {h : jM} {cnt i : Nat} (q : (∀ q, q < i → ¬ (cut6 (h 42) q = cut6 (h 42) i ∧ cut6 (h 43) q = cut6 (h 43) i)) ∧ ¬ jwho (cut6 (h 42)) (cut6 (h 43)) i cnt = jbit i) : mMt h cnt (i + 1) = mKeep (mMt h cnt i) (h 37 4) (cut6 (h 42) i) (cut6 (h 43) i) (jwho (cut6 (h 42)) (cut6 (h 43)) i cnt) := if_pos q
theorem mMt_n {h : jM} {cnt i : Nat} (q : ¬ ((∀ q, q < i → ¬ (cut6 (h 42) q = cut6 (h 42) i ∧ cut6 (h 43) q = cut6 (h 43) i)) ∧ ¬ jwho (cut6 (h 42)) (cut6 (h 43)) i cnt = jbit i)) : mMt h cnt (i + 1) = mMt h cnt i := if_neg q
theorem mKeep_o {h : jM} {w x y b : Int32} {c : Nat} (hc : ¬ (47 ≤ c ∧ c < 51) ∧ ¬ c = 37) : mKeep h w x y b c = h c := by
  unfold mKeep
  split
  · rw [up2_n (by omega), up2_n (by omega), up2_n (by omega), up2_n (by omega), up2_n (by omega)]
  · rw [up2_n (by omega)]
theorem mKeep_37 {h : jM} {w x y b : Int32} {k : Nat} (hk : ¬ k = 14) : mKeep h w x y b 37 k = h 37 k := by
  unfold mKeep
  split
  · rw [up2_s, upd_n hk, up2_n (by decide), up2_n (by decide), up2_n (by decide), up2_n (by decide)]
  · rw [up2_s, upd_n hk]
theorem mKeep_t (h : jM) (w x y b : Int32) : mKeep h w x y b 37 14 = h 37 14 + 1 := by
  unfold mKeep
  split
  · rw [up2_s, upd_s]
  · rw [up2_s, upd_s]
theorem mMt_37 (h : jM) (cnt : Nat) : ∀ (i : Nat) {k : Nat}, ¬ k = 14 → mMt h cnt i 37 k = h 37 k
  | 0, k, _ => rfl
  | i + 1, k, hk => by
    by_cases q : (∀ q, q < i → ¬ (cut6 (h 42) q = cut6 (h 42) i ∧ cut6 (h 43) q = cut6 (h 43) i)) ∧ ¬ jwho (cut6 (h 42)) (cut6 (h 43)) i cnt = jbit i
    · rw [mMt_s q, mKeep_37 hk]; exact mMt_37 h cnt i hk
    · rw [mMt_n q]; exact mMt_37 h cnt i hk
theorem mMt_8 (h : jM) (cnt i : Nat) : mMt h cnt i 37 8 = h 37 8 := mMt_37 h cnt i (by decide)
theorem mMt_o (h : jM) (cnt : Nat) : ∀ i, (∀ c, (¬ (47 ≤ c ∧ c < 51) ∧ ¬ c = 37) → mMt h cnt i c = h c) ∧ (0 ≤ (h 37 14).toInt → (h 37 14).toInt + i < 2147483648 → (h 37 14).toInt ≤ (mMt h cnt i 37 14).toInt ∧ (mMt h cnt i 37 14).toInt ≤ (h 37 14).toInt + i)
  | 0 => ⟨fun _ _ => rfl, fun _ _ => ⟨Int.le_refl _, by simp [mMt]⟩⟩
  | i + 1 => by
    obtain ⟨h1, h2⟩ := mMt_o h cnt i
    by_cases q : (∀ q, q < i → ¬ (cut6 (h 42) q = cut6 (h 42) i ∧ cut6 (h 43) q = cut6 (h 43) i)) ∧ ¬ jwho (cut6 (h 42)) (cut6 (h 43)) i cnt = jbit i
    · rw [mMt_s q]
      refine ⟨fun c hc => ?_, fun g1 g2 => ?_⟩
      · rw [mKeep_o hc]; exact h1 c hc
      · obtain ⟨h3, h4⟩ := h2 g1 (by omega)
        have e : (mMt h cnt i 37 14 + 1).toInt = (mMt h cnt i 37 14).toInt + 1 := ti_add (by show _ ≤ _ + (1 : Int); omega) (by show _ + (1 : Int) < _; omega)
        rw [mKeep_t, e]
        omega
    · rw [mMt_n q]
      refine ⟨h1, fun g1 g2 => ?_⟩
      obtain ⟨h3, h4⟩ := h2 g1 (by omega)
      omega
def T_X7_meet : jT := fun vs K h Q => match vs with
  | [.ref r0] => r0 = 37 ∧ (jXM K ∧ (∃ cnt : Nat, cnt ≤ 6 ∧ h 37 8 = nI cnt ∧ (0 ≤ (h 37 14).toInt ∧ (h 37 14).toInt + 6 < 2147483648) ∧ Q none K (mMt h cnt cnt)))
  | _ => False
def sg_X7_meet_0 : jS := [(o_ic (0), 1), (o_istore 1, 1)]
def sg_X7_meet_2 : jS := [(o_iload 1, 1), (o_aload 0, 1), (o_getf 7 8, 3), (o_icge 197, 3), (o_ic (0), 1), (o_istore 2, 1), (o_ic (1), 1), (o_istore 3, 1), (o_ic (0), 1), (o_istore 4, 2)]
def sg_X7_meet_17 : jS := [(o_iload 4, 2), (o_aload 0, 1), (o_getf 7 8, 3), (o_icge 108, 3), (o_aload 0, 1), (o_getf 7 9, 3), (o_iload 4, 2), (o_iald, 1), (o_aload 0, 1), (o_getf 7 9, 3), (o_iload 1, 1), (o_iald, 1), (o_icne 62, 3), (o_aload 0, 1), (o_getf 7 10, 3), (o_iload 4, 2), (o_iald, 1), (o_aload 0, 1), (o_getf 7 10, 3), (o_iload 1, 1), (o_iald, 1), (o_icne 62, 3), (o_ic (1), 1), (o_goto 63, 3)]
def sg_X7_meet_62 : jS := [(o_ic (0), 1)]
def sg_X7_meet_63 : jS := [(o_istore 5, 2), (o_iload 2, 1), (o_iload 5, 2), (o_ifeq 78, 3), (o_ic (1), 1), (o_iload 4, 2), (o_ishl, 1), (o_goto 79, 3)]
def sg_X7_meet_78 : jS := [(o_ic (0), 1), (o_ior, 1), (o_istore 2, 1), (o_iload 3, 1), (o_ifeq 100, 3), (o_iload 5, 2), (o_ifeq 96, 3), (o_iload 4, 2), (o_iload 1, 1), (o_iclt 100, 3), (o_ic (1), 1), (o_goto 101, 3)]
def sg_X7_meet_79 : jS := [(o_ior, 1), (o_istore 2, 1), (o_iload 3, 1), (o_ifeq 100, 3), (o_iload 5, 2), (o_ifeq 96, 3), (o_iload 4, 2), (o_iload 1, 1), (o_iclt 100, 3), (o_ic (1), 1), (o_goto 101, 3)]
def sg_X7_meet_96 : jS := [(o_ic (1), 1), (o_goto 101, 3)]
def sg_X7_meet_100 : jS := [(o_ic (0), 1), (o_istore 3, 1), (o_iinc 4 (1), 3), (o_goto 17, 3)]
def sg_X7_meet_101 : jS := [(o_istore 3, 1), (o_iinc 4 (1), 3), (o_goto 17, 3)]
def sg_X7_meet_108 : jS := [(o_iload 3, 1), (o_ifeq 191, 3), (o_iload 2, 1), (o_ic (1), 1), (o_iload 1, 1), (o_ishl, 1), (o_iceq 191, 3), (o_aload 0, 1), (o_getf 7 14, 3), (o_ic (60), 2), (o_icge 181, 3), (o_aload 0, 1), (o_getf 7 15, 3), (o_aload 0, 1), (o_getf 7 14, 3), (o_aload 0, 1), (o_getf 7 4, 3), (o_iast, 1), (o_aload 0, 1), (o_getf 7 16, 3), (o_aload 0, 1), (o_getf 7 14, 3), (o_aload 0, 1), (o_getf 7 9, 3), (o_iload 1, 1), (o_iald, 1), (o_iast, 1), (o_aload 0, 1), (o_getf 7 17, 3), (o_aload 0, 1), (o_getf 7 14, 3), (o_aload 0, 1), (o_getf 7 10, 3), (o_iload 1, 1), (o_iald, 1), (o_iast, 1), (o_aload 0, 1), (o_getf 7 18, 3), (o_aload 0, 1), (o_getf 7 14, 3), (o_iload 2, 1), (o_iast, 1), (o_aload 0, 1), (o_dup, 1), (o_getf 7 14, 3), (o_ic (1), 1), (o_iadd, 1), (o_putf 7 14, 3), (o_iinc 1 (1), 3), (o_goto 2, 3)]
def sg_X7_meet_181 : jS := [(o_aload 0, 1), (o_dup, 1), (o_getf 7 14, 3), (o_ic (1), 1), (o_iadd, 1), (o_putf 7 14, 3), (o_iinc 1 (1), 3), (o_goto 2, 3)]
def sg_X7_meet_191 : jS := [(o_iinc 1 (1), 3), (o_goto 2, 3)]
def sg_X7_meet_197 : jS := [(o_vret, 1)]
def cd_X7_meet : Nat → jS := fun t => match t with
  | 62 => sg_X7_meet_62
  | 78 => sg_X7_meet_78
  | 79 => sg_X7_meet_79
  | 96 => sg_X7_meet_96
  | 100 => sg_X7_meet_100
  | 101 => sg_X7_meet_101
  | 181 => sg_X7_meet_181
  | 191 => sg_X7_meet_191
  | 197 => sg_X7_meet_197
  | _ => []
theorem wl_X7_meet_27 : Cond.fieldLink RX7 27 (TX7 9).1 (TX7 9).2.1 (TX7 9).2.2.1 ∈ wsX7_meet := by decide +kernel
theorem wl_X7_meet_30 : Cond.fieldLink RX7 30 (TX7 10).1 (TX7 10).2.1 (TX7 10).2.2.1 ∈ wsX7_meet := by decide +kernel
theorem wl_X7_meet_42 : Cond.fieldLink RX7 42 (TX7 15).1 (TX7 15).2.1 (TX7 15).2.2.1 ∈ wsX7_meet := by decide +kernel
theorem wl_X7_meet_45 : Cond.fieldLink RX7 45 (TX7 16).1 (TX7 16).2.1 (TX7 16).2.2.1 ∈ wsX7_meet := by decide +kernel
theorem wl_X7_meet_48 : Cond.fieldLink RX7 48 (TX7 17).1 (TX7 17).2.1 (TX7 17).2.2.1 ∈ wsX7_meet := by decide +kernel
theorem wl_X7_meet_51 : Cond.fieldLink RX7 51 (TX7 18).1 (TX7 18).2.1 (TX7 18).2.2.1 ∈ wsX7_meet := by decide +kernel
theorem wl_X7_meet_81 : Cond.fieldLink RX7 81 (TX7 8).1 (TX7 8).2.1 (TX7 8).2.2.1 ∈ wsX7_meet := by decide +kernel
theorem wl_X7_meet_91 : Cond.fieldLink RX7 91 (TX7 4).1 (TX7 4).2.1 (TX7 4).2.2.1 ∈ wsX7_meet := by decide +kernel
theorem wl_X7_meet_94 : Cond.fieldLink RX7 94 (TX7 14).1 (TX7 14).2.1 (TX7 14).2.2.1 ∈ wsX7_meet := by decide +kernel
theorem wi_X7_meet_X7 : ∀ w ∈ u_ws RX7 TX7 33, w ∈ wsX7_meet := by decide +kernel
def E_X7_meet (Γ : jΓ) (Q : jPost) : Prop := Γ.2.2.2.2.2.2.2.2.2.2.1 = 6 ∧ Γ.2.2.2.2.2.2.2.2.2.2.2.1 = vwCl ∧ jC Γ cX7_meet RX7 "meet" none wsX7_meet 0 0 0 0 ∧ jR Γ Q 0 0
theorem oo_X7_meet_0 {Γ : jΓ} {Q : jPost} (E : E_X7_meet Γ Q) : jSA Γ Q 0 (o_ic (0)) 1 := so_iconst E.2.2.1 rfl dX7_meet_0
theorem oo_X7_meet_1 {Γ : jΓ} {Q : jPost} (E : E_X7_meet Γ Q) : jSA Γ Q 1 (o_istore 1) 1 := so_istore_n E.2.2.1 rfl (by rw [E.1]; decide) dX7_meet_1
theorem oo_X7_meet_2 {Γ : jΓ} {Q : jPost} (E : E_X7_meet Γ Q) : jSA Γ Q 2 (o_iload 1) 1 := so_iload_n E.2.2.1 rfl dX7_meet_2
theorem oo_X7_meet_3 {Γ : jΓ} {Q : jPost} (E : E_X7_meet Γ Q) : jSA Γ Q 3 (o_aload 0) 1 := so_aload_n E.2.2.1 rfl dX7_meet_3
theorem oo_X7_meet_4 {Γ : jΓ} {Q : jPost} (E : E_X7_meet Γ Q) : jSA Γ Q 4 (o_getf 7 8) 3 := so_getf (ci := 7) E.2.2.1 wi_X7_meet_X7 (by rw [E.2.1]; rfl) 8 (by decide) wl_X7_meet_81 dX7_meet_4
theorem oo_X7_meet_7 {Γ : jΓ} {Q : jPost} (E : E_X7_meet Γ Q) : jSA Γ Q 7 (o_icge 197) 3 := so_icge E.2.2.1 (by decide) dX7_meet_7
theorem oo_X7_meet_10 {Γ : jΓ} {Q : jPost} (E : E_X7_meet Γ Q) : jSA Γ Q 10 (o_ic (0)) 1 := so_iconst E.2.2.1 rfl dX7_meet_10
theorem oo_X7_meet_11 {Γ : jΓ} {Q : jPost} (E : E_X7_meet Γ Q) : jSA Γ Q 11 (o_istore 2) 1 := so_istore_n E.2.2.1 rfl (by rw [E.1]; decide) dX7_meet_11
theorem oo_X7_meet_12 {Γ : jΓ} {Q : jPost} (E : E_X7_meet Γ Q) : jSA Γ Q 12 (o_ic (1)) 1 := so_iconst E.2.2.1 rfl dX7_meet_12
theorem oo_X7_meet_13 {Γ : jΓ} {Q : jPost} (E : E_X7_meet Γ Q) : jSA Γ Q 13 (o_istore 3) 1 := so_istore_n E.2.2.1 rfl (by rw [E.1]; decide) dX7_meet_13
theorem oo_X7_meet_14 {Γ : jΓ} {Q : jPost} (E : E_X7_meet Γ Q) : jSA Γ Q 14 (o_ic (0)) 1 := so_iconst E.2.2.1 rfl dX7_meet_14
theorem oo_X7_meet_15 {Γ : jΓ} {Q : jPost} (E : E_X7_meet Γ Q) : jSA Γ Q 15 (o_istore 4) 2 := so_istore E.2.2.1 (by rw [E.1]; decide) dX7_meet_15
theorem oo_X7_meet_17 {Γ : jΓ} {Q : jPost} (E : E_X7_meet Γ Q) : jSA Γ Q 17 (o_iload 4) 2 := so_iload E.2.2.1 dX7_meet_17
theorem oo_X7_meet_19 {Γ : jΓ} {Q : jPost} (E : E_X7_meet Γ Q) : jSA Γ Q 19 (o_aload 0) 1 := so_aload_n E.2.2.1 rfl dX7_meet_19
theorem oo_X7_meet_20 {Γ : jΓ} {Q : jPost} (E : E_X7_meet Γ Q) : jSA Γ Q 20 (o_getf 7 8) 3 := so_getf (ci := 7) E.2.2.1 wi_X7_meet_X7 (by rw [E.2.1]; rfl) 8 (by decide) wl_X7_meet_81 dX7_meet_20
theorem oo_X7_meet_23 {Γ : jΓ} {Q : jPost} (E : E_X7_meet Γ Q) : jSA Γ Q 23 (o_icge 108) 3 := so_icge E.2.2.1 (by decide) dX7_meet_23
theorem oo_X7_meet_26 {Γ : jΓ} {Q : jPost} (E : E_X7_meet Γ Q) : jSA Γ Q 26 (o_aload 0) 1 := so_aload_n E.2.2.1 rfl dX7_meet_26
theorem oo_X7_meet_27 {Γ : jΓ} {Q : jPost} (E : E_X7_meet Γ Q) : jSA Γ Q 27 (o_getf 7 9) 3 := so_getf (ci := 7) E.2.2.1 wi_X7_meet_X7 (by rw [E.2.1]; rfl) 9 (by decide) wl_X7_meet_27 dX7_meet_27
theorem oo_X7_meet_30 {Γ : jΓ} {Q : jPost} (E : E_X7_meet Γ Q) : jSA Γ Q 30 (o_iload 4) 2 := so_iload E.2.2.1 dX7_meet_30
theorem oo_X7_meet_32 {Γ : jΓ} {Q : jPost} (E : E_X7_meet Γ Q) : jSA Γ Q 32 (o_iald) 1 := so_iald E.2.2.1 dX7_meet_32
theorem oo_X7_meet_33 {Γ : jΓ} {Q : jPost} (E : E_X7_meet Γ Q) : jSA Γ Q 33 (o_aload 0) 1 := so_aload_n E.2.2.1 rfl dX7_meet_33
theorem oo_X7_meet_34 {Γ : jΓ} {Q : jPost} (E : E_X7_meet Γ Q) : jSA Γ Q 34 (o_getf 7 9) 3 := so_getf (ci := 7) E.2.2.1 wi_X7_meet_X7 (by rw [E.2.1]; rfl) 9 (by decide) wl_X7_meet_27 dX7_meet_34
theorem oo_X7_meet_37 {Γ : jΓ} {Q : jPost} (E : E_X7_meet Γ Q) : jSA Γ Q 37 (o_iload 1) 1 := so_iload_n E.2.2.1 rfl dX7_meet_37
theorem oo_X7_meet_38 {Γ : jΓ} {Q : jPost} (E : E_X7_meet Γ Q) : jSA Γ Q 38 (o_iald) 1 := so_iald E.2.2.1 dX7_meet_38
theorem oo_X7_meet_39 {Γ : jΓ} {Q : jPost} (E : E_X7_meet Γ Q) : jSA Γ Q 39 (o_icne 62) 3 := so_icne E.2.2.1 (by decide) dX7_meet_39
theorem oo_X7_meet_42 {Γ : jΓ} {Q : jPost} (E : E_X7_meet Γ Q) : jSA Γ Q 42 (o_aload 0) 1 := so_aload_n E.2.2.1 rfl dX7_meet_42
theorem oo_X7_meet_43 {Γ : jΓ} {Q : jPost} (E : E_X7_meet Γ Q) : jSA Γ Q 43 (o_getf 7 10) 3 := so_getf (ci := 7) E.2.2.1 wi_X7_meet_X7 (by rw [E.2.1]; rfl) 10 (by decide) wl_X7_meet_30 dX7_meet_43
theorem oo_X7_meet_46 {Γ : jΓ} {Q : jPost} (E : E_X7_meet Γ Q) : jSA Γ Q 46 (o_iload 4) 2 := so_iload E.2.2.1 dX7_meet_46
theorem oo_X7_meet_48 {Γ : jΓ} {Q : jPost} (E : E_X7_meet Γ Q) : jSA Γ Q 48 (o_iald) 1 := so_iald E.2.2.1 dX7_meet_48
theorem oo_X7_meet_49 {Γ : jΓ} {Q : jPost} (E : E_X7_meet Γ Q) : jSA Γ Q 49 (o_aload 0) 1 := so_aload_n E.2.2.1 rfl dX7_meet_49
theorem oo_X7_meet_50 {Γ : jΓ} {Q : jPost} (E : E_X7_meet Γ Q) : jSA Γ Q 50 (o_getf 7 10) 3 := so_getf (ci := 7) E.2.2.1 wi_X7_meet_X7 (by rw [E.2.1]; rfl) 10 (by decide) wl_X7_meet_30 dX7_meet_50
theorem oo_X7_meet_53 {Γ : jΓ} {Q : jPost} (E : E_X7_meet Γ Q) : jSA Γ Q 53 (o_iload 1) 1 := so_iload_n E.2.2.1 rfl dX7_meet_53
theorem oo_X7_meet_54 {Γ : jΓ} {Q : jPost} (E : E_X7_meet Γ Q) : jSA Γ Q 54 (o_iald) 1 := so_iald E.2.2.1 dX7_meet_54
theorem oo_X7_meet_55 {Γ : jΓ} {Q : jPost} (E : E_X7_meet Γ Q) : jSA Γ Q 55 (o_icne 62) 3 := so_icne E.2.2.1 (by decide) dX7_meet_55
theorem oo_X7_meet_58 {Γ : jΓ} {Q : jPost} (E : E_X7_meet Γ Q) : jSA Γ Q 58 (o_ic (1)) 1 := so_iconst E.2.2.1 rfl dX7_meet_58
theorem oo_X7_meet_59 {Γ : jΓ} {Q : jPost} (E : E_X7_meet Γ Q) : jSA Γ Q 59 (o_goto 63) 3 := so_goto E.2.2.1 (by decide) dX7_meet_59
theorem oo_X7_meet_62 {Γ : jΓ} {Q : jPost} (E : E_X7_meet Γ Q) : jSA Γ Q 62 (o_ic (0)) 1 := so_iconst E.2.2.1 rfl dX7_meet_62
theorem oo_X7_meet_63 {Γ : jΓ} {Q : jPost} (E : E_X7_meet Γ Q) : jSA Γ Q 63 (o_istore 5) 2 := so_istore E.2.2.1 (by rw [E.1]; decide) dX7_meet_63
theorem oo_X7_meet_65 {Γ : jΓ} {Q : jPost} (E : E_X7_meet Γ Q) : jSA Γ Q 65 (o_iload 2) 1 := so_iload_n E.2.2.1 rfl dX7_meet_65
theorem oo_X7_meet_66 {Γ : jΓ} {Q : jPost} (E : E_X7_meet Γ Q) : jSA Γ Q 66 (o_iload 5) 2 := so_iload E.2.2.1 dX7_meet_66
theorem oo_X7_meet_68 {Γ : jΓ} {Q : jPost} (E : E_X7_meet Γ Q) : jSA Γ Q 68 (o_ifeq 78) 3 := so_ifeq E.2.2.1 (by decide) dX7_meet_68
theorem oo_X7_meet_71 {Γ : jΓ} {Q : jPost} (E : E_X7_meet Γ Q) : jSA Γ Q 71 (o_ic (1)) 1 := so_iconst E.2.2.1 rfl dX7_meet_71
theorem oo_X7_meet_72 {Γ : jΓ} {Q : jPost} (E : E_X7_meet Γ Q) : jSA Γ Q 72 (o_iload 4) 2 := so_iload E.2.2.1 dX7_meet_72
theorem oo_X7_meet_74 {Γ : jΓ} {Q : jPost} (E : E_X7_meet Γ Q) : jSA Γ Q 74 (o_ishl) 1 := so_ishl E.2.2.1 dX7_meet_74
theorem oo_X7_meet_75 {Γ : jΓ} {Q : jPost} (E : E_X7_meet Γ Q) : jSA Γ Q 75 (o_goto 79) 3 := so_goto E.2.2.1 (by decide) dX7_meet_75
theorem oo_X7_meet_78 {Γ : jΓ} {Q : jPost} (E : E_X7_meet Γ Q) : jSA Γ Q 78 (o_ic (0)) 1 := so_iconst E.2.2.1 rfl dX7_meet_78
theorem oo_X7_meet_79 {Γ : jΓ} {Q : jPost} (E : E_X7_meet Γ Q) : jSA Γ Q 79 (o_ior) 1 := so_ior E.2.2.1 dX7_meet_79
theorem oo_X7_meet_80 {Γ : jΓ} {Q : jPost} (E : E_X7_meet Γ Q) : jSA Γ Q 80 (o_istore 2) 1 := so_istore_n E.2.2.1 rfl (by rw [E.1]; decide) dX7_meet_80
theorem oo_X7_meet_81 {Γ : jΓ} {Q : jPost} (E : E_X7_meet Γ Q) : jSA Γ Q 81 (o_iload 3) 1 := so_iload_n E.2.2.1 rfl dX7_meet_81
theorem oo_X7_meet_82 {Γ : jΓ} {Q : jPost} (E : E_X7_meet Γ Q) : jSA Γ Q 82 (o_ifeq 100) 3 := so_ifeq E.2.2.1 (by decide) dX7_meet_82
theorem oo_X7_meet_85 {Γ : jΓ} {Q : jPost} (E : E_X7_meet Γ Q) : jSA Γ Q 85 (o_iload 5) 2 := so_iload E.2.2.1 dX7_meet_85
theorem oo_X7_meet_87 {Γ : jΓ} {Q : jPost} (E : E_X7_meet Γ Q) : jSA Γ Q 87 (o_ifeq 96) 3 := so_ifeq E.2.2.1 (by decide) dX7_meet_87
theorem oo_X7_meet_90 {Γ : jΓ} {Q : jPost} (E : E_X7_meet Γ Q) : jSA Γ Q 90 (o_iload 4) 2 := so_iload E.2.2.1 dX7_meet_90
theorem oo_X7_meet_92 {Γ : jΓ} {Q : jPost} (E : E_X7_meet Γ Q) : jSA Γ Q 92 (o_iload 1) 1 := so_iload_n E.2.2.1 rfl dX7_meet_92
theorem oo_X7_meet_93 {Γ : jΓ} {Q : jPost} (E : E_X7_meet Γ Q) : jSA Γ Q 93 (o_iclt 100) 3 := so_iclt E.2.2.1 (by decide) dX7_meet_93
theorem oo_X7_meet_96 {Γ : jΓ} {Q : jPost} (E : E_X7_meet Γ Q) : jSA Γ Q 96 (o_ic (1)) 1 := so_iconst E.2.2.1 rfl dX7_meet_96
theorem oo_X7_meet_97 {Γ : jΓ} {Q : jPost} (E : E_X7_meet Γ Q) : jSA Γ Q 97 (o_goto 101) 3 := so_goto E.2.2.1 (by decide) dX7_meet_97
theorem oo_X7_meet_100 {Γ : jΓ} {Q : jPost} (E : E_X7_meet Γ Q) : jSA Γ Q 100 (o_ic (0)) 1 := so_iconst E.2.2.1 rfl dX7_meet_100
theorem oo_X7_meet_101 {Γ : jΓ} {Q : jPost} (E : E_X7_meet Γ Q) : jSA Γ Q 101 (o_istore 3) 1 := so_istore_n E.2.2.1 rfl (by rw [E.1]; decide) dX7_meet_101
theorem oo_X7_meet_102 {Γ : jΓ} {Q : jPost} (E : E_X7_meet Γ Q) : jSA Γ Q 102 (o_iinc 4 (1)) 3 := so_iinc E.2.2.1 rfl (by rw [E.1]; decide) dX7_meet_102
theorem oo_X7_meet_105 {Γ : jΓ} {Q : jPost} (E : E_X7_meet Γ Q) : jSA Γ Q 105 (o_goto 17) 3 := so_goto E.2.2.1 (by decide) dX7_meet_105
theorem oo_X7_meet_108 {Γ : jΓ} {Q : jPost} (E : E_X7_meet Γ Q) : jSA Γ Q 108 (o_iload 3) 1 := so_iload_n E.2.2.1 rfl dX7_meet_108
theorem oo_X7_meet_109 {Γ : jΓ} {Q : jPost} (E : E_X7_meet Γ Q) : jSA Γ Q 109 (o_ifeq 191) 3 := so_ifeq E.2.2.1 (by decide) dX7_meet_109
theorem oo_X7_meet_112 {Γ : jΓ} {Q : jPost} (E : E_X7_meet Γ Q) : jSA Γ Q 112 (o_iload 2) 1 := so_iload_n E.2.2.1 rfl dX7_meet_112
theorem oo_X7_meet_113 {Γ : jΓ} {Q : jPost} (E : E_X7_meet Γ Q) : jSA Γ Q 113 (o_ic (1)) 1 := so_iconst E.2.2.1 rfl dX7_meet_113
theorem oo_X7_meet_114 {Γ : jΓ} {Q : jPost} (E : E_X7_meet Γ Q) : jSA Γ Q 114 (o_iload 1) 1 := so_iload_n E.2.2.1 rfl dX7_meet_114
theorem oo_X7_meet_115 {Γ : jΓ} {Q : jPost} (E : E_X7_meet Γ Q) : jSA Γ Q 115 (o_ishl) 1 := so_ishl E.2.2.1 dX7_meet_115
theorem oo_X7_meet_116 {Γ : jΓ} {Q : jPost} (E : E_X7_meet Γ Q) : jSA Γ Q 116 (o_iceq 191) 3 := so_iceq E.2.2.1 (by decide) dX7_meet_116
theorem oo_X7_meet_119 {Γ : jΓ} {Q : jPost} (E : E_X7_meet Γ Q) : jSA Γ Q 119 (o_aload 0) 1 := so_aload_n E.2.2.1 rfl dX7_meet_119
theorem oo_X7_meet_120 {Γ : jΓ} {Q : jPost} (E : E_X7_meet Γ Q) : jSA Γ Q 120 (o_getf 7 14) 3 := so_getf (ci := 7) E.2.2.1 wi_X7_meet_X7 (by rw [E.2.1]; rfl) 14 (by decide) wl_X7_meet_94 dX7_meet_120
theorem oo_X7_meet_123 {Γ : jΓ} {Q : jPost} (E : E_X7_meet Γ Q) : jSA Γ Q 123 (o_ic (60)) 2 := so_bipush E.2.2.1 rfl dX7_meet_123
theorem oo_X7_meet_125 {Γ : jΓ} {Q : jPost} (E : E_X7_meet Γ Q) : jSA Γ Q 125 (o_icge 181) 3 := so_icge E.2.2.1 (by decide) dX7_meet_125
theorem oo_X7_meet_128 {Γ : jΓ} {Q : jPost} (E : E_X7_meet Γ Q) : jSA Γ Q 128 (o_aload 0) 1 := so_aload_n E.2.2.1 rfl dX7_meet_128
theorem oo_X7_meet_129 {Γ : jΓ} {Q : jPost} (E : E_X7_meet Γ Q) : jSA Γ Q 129 (o_getf 7 15) 3 := so_getf (ci := 7) E.2.2.1 wi_X7_meet_X7 (by rw [E.2.1]; rfl) 15 (by decide) wl_X7_meet_42 dX7_meet_129
theorem oo_X7_meet_132 {Γ : jΓ} {Q : jPost} (E : E_X7_meet Γ Q) : jSA Γ Q 132 (o_aload 0) 1 := so_aload_n E.2.2.1 rfl dX7_meet_132
theorem oo_X7_meet_133 {Γ : jΓ} {Q : jPost} (E : E_X7_meet Γ Q) : jSA Γ Q 133 (o_getf 7 14) 3 := so_getf (ci := 7) E.2.2.1 wi_X7_meet_X7 (by rw [E.2.1]; rfl) 14 (by decide) wl_X7_meet_94 dX7_meet_133
theorem oo_X7_meet_136 {Γ : jΓ} {Q : jPost} (E : E_X7_meet Γ Q) : jSA Γ Q 136 (o_aload 0) 1 := so_aload_n E.2.2.1 rfl dX7_meet_136
theorem oo_X7_meet_137 {Γ : jΓ} {Q : jPost} (E : E_X7_meet Γ Q) : jSA Γ Q 137 (o_getf 7 4) 3 := so_getf (ci := 7) E.2.2.1 wi_X7_meet_X7 (by rw [E.2.1]; rfl) 4 (by decide) wl_X7_meet_91 dX7_meet_137
theorem oo_X7_meet_140 {Γ : jΓ} {Q : jPost} (E : E_X7_meet Γ Q) : jSA Γ Q 140 (o_iast) 1 := so_iast E.2.2.1 dX7_meet_140
theorem oo_X7_meet_141 {Γ : jΓ} {Q : jPost} (E : E_X7_meet Γ Q) : jSA Γ Q 141 (o_aload 0) 1 := so_aload_n E.2.2.1 rfl dX7_meet_141
theorem oo_X7_meet_142 {Γ : jΓ} {Q : jPost} (E : E_X7_meet Γ Q) : jSA Γ Q 142 (o_getf 7 16) 3 := so_getf (ci := 7) E.2.2.1 wi_X7_meet_X7 (by rw [E.2.1]; rfl) 16 (by decide) wl_X7_meet_45 dX7_meet_142
theorem oo_X7_meet_145 {Γ : jΓ} {Q : jPost} (E : E_X7_meet Γ Q) : jSA Γ Q 145 (o_aload 0) 1 := so_aload_n E.2.2.1 rfl dX7_meet_145
theorem oo_X7_meet_146 {Γ : jΓ} {Q : jPost} (E : E_X7_meet Γ Q) : jSA Γ Q 146 (o_getf 7 14) 3 := so_getf (ci := 7) E.2.2.1 wi_X7_meet_X7 (by rw [E.2.1]; rfl) 14 (by decide) wl_X7_meet_94 dX7_meet_146
theorem oo_X7_meet_149 {Γ : jΓ} {Q : jPost} (E : E_X7_meet Γ Q) : jSA Γ Q 149 (o_aload 0) 1 := so_aload_n E.2.2.1 rfl dX7_meet_149
theorem oo_X7_meet_150 {Γ : jΓ} {Q : jPost} (E : E_X7_meet Γ Q) : jSA Γ Q 150 (o_getf 7 9) 3 := so_getf (ci := 7) E.2.2.1 wi_X7_meet_X7 (by rw [E.2.1]; rfl) 9 (by decide) wl_X7_meet_27 dX7_meet_150
theorem oo_X7_meet_153 {Γ : jΓ} {Q : jPost} (E : E_X7_meet Γ Q) : jSA Γ Q 153 (o_iload 1) 1 := so_iload_n E.2.2.1 rfl dX7_meet_153
theorem oo_X7_meet_154 {Γ : jΓ} {Q : jPost} (E : E_X7_meet Γ Q) : jSA Γ Q 154 (o_iald) 1 := so_iald E.2.2.1 dX7_meet_154
theorem oo_X7_meet_155 {Γ : jΓ} {Q : jPost} (E : E_X7_meet Γ Q) : jSA Γ Q 155 (o_iast) 1 := so_iast E.2.2.1 dX7_meet_155
theorem oo_X7_meet_156 {Γ : jΓ} {Q : jPost} (E : E_X7_meet Γ Q) : jSA Γ Q 156 (o_aload 0) 1 := so_aload_n E.2.2.1 rfl dX7_meet_156
theorem oo_X7_meet_157 {Γ : jΓ} {Q : jPost} (E : E_X7_meet Γ Q) : jSA Γ Q 157 (o_getf 7 17) 3 := so_getf (ci := 7) E.2.2.1 wi_X7_meet_X7 (by rw [E.2.1]; rfl) 17 (by decide) wl_X7_meet_48 dX7_meet_157
theorem oo_X7_meet_160 {Γ : jΓ} {Q : jPost} (E : E_X7_meet Γ Q) : jSA Γ Q 160 (o_aload 0) 1 := so_aload_n E.2.2.1 rfl dX7_meet_160
theorem oo_X7_meet_161 {Γ : jΓ} {Q : jPost} (E : E_X7_meet Γ Q) : jSA Γ Q 161 (o_getf 7 14) 3 := so_getf (ci := 7) E.2.2.1 wi_X7_meet_X7 (by rw [E.2.1]; rfl) 14 (by decide) wl_X7_meet_94 dX7_meet_161
theorem oo_X7_meet_164 {Γ : jΓ} {Q : jPost} (E : E_X7_meet Γ Q) : jSA Γ Q 164 (o_aload 0) 1 := so_aload_n E.2.2.1 rfl dX7_meet_164
theorem oo_X7_meet_165 {Γ : jΓ} {Q : jPost} (E : E_X7_meet Γ Q) : jSA Γ Q 165 (o_getf 7 10) 3 := so_getf (ci := 7) E.2.2.1 wi_X7_meet_X7 (by rw [E.2.1]; rfl) 10 (by decide) wl_X7_meet_30 dX7_meet_165
theorem oo_X7_meet_168 {Γ : jΓ} {Q : jPost} (E : E_X7_meet Γ Q) : jSA Γ Q 168 (o_iload 1) 1 := so_iload_n E.2.2.1 rfl dX7_meet_168
theorem oo_X7_meet_169 {Γ : jΓ} {Q : jPost} (E : E_X7_meet Γ Q) : jSA Γ Q 169 (o_iald) 1 := so_iald E.2.2.1 dX7_meet_169
theorem oo_X7_meet_170 {Γ : jΓ} {Q : jPost} (E : E_X7_meet Γ Q) : jSA Γ Q 170 (o_iast) 1 := so_iast E.2.2.1 dX7_meet_170
theorem oo_X7_meet_171 {Γ : jΓ} {Q : jPost} (E : E_X7_meet Γ Q) : jSA Γ Q 171 (o_aload 0) 1 := so_aload_n E.2.2.1 rfl dX7_meet_171
theorem oo_X7_meet_172 {Γ : jΓ} {Q : jPost} (E : E_X7_meet Γ Q) : jSA Γ Q 172 (o_getf 7 18) 3 := so_getf (ci := 7) E.2.2.1 wi_X7_meet_X7 (by rw [E.2.1]; rfl) 18 (by decide) wl_X7_meet_51 dX7_meet_172
theorem oo_X7_meet_175 {Γ : jΓ} {Q : jPost} (E : E_X7_meet Γ Q) : jSA Γ Q 175 (o_aload 0) 1 := so_aload_n E.2.2.1 rfl dX7_meet_175
theorem oo_X7_meet_176 {Γ : jΓ} {Q : jPost} (E : E_X7_meet Γ Q) : jSA Γ Q 176 (o_getf 7 14) 3 := so_getf (ci := 7) E.2.2.1 wi_X7_meet_X7 (by rw [E.2.1]; rfl) 14 (by decide) wl_X7_meet_94 dX7_meet_176
theorem oo_X7_meet_179 {Γ : jΓ} {Q : jPost} (E : E_X7_meet Γ Q) : jSA Γ Q 179 (o_iload 2) 1 := so_iload_n E.2.2.1 rfl dX7_meet_179
theorem oo_X7_meet_180 {Γ : jΓ} {Q : jPost} (E : E_X7_meet Γ Q) : jSA Γ Q 180 (o_iast) 1 := so_iast E.2.2.1 dX7_meet_180
theorem oo_X7_meet_181 {Γ : jΓ} {Q : jPost} (E : E_X7_meet Γ Q) : jSA Γ Q 181 (o_aload 0) 1 := so_aload_n E.2.2.1 rfl dX7_meet_181
theorem oo_X7_meet_182 {Γ : jΓ} {Q : jPost} (E : E_X7_meet Γ Q) : jSA Γ Q 182 (o_dup) 1 := so_dup E.2.2.1 dX7_meet_182
theorem oo_X7_meet_183 {Γ : jΓ} {Q : jPost} (E : E_X7_meet Γ Q) : jSA Γ Q 183 (o_getf 7 14) 3 := so_getf (ci := 7) E.2.2.1 wi_X7_meet_X7 (by rw [E.2.1]; rfl) 14 (by decide) wl_X7_meet_94 dX7_meet_183
theorem oo_X7_meet_186 {Γ : jΓ} {Q : jPost} (E : E_X7_meet Γ Q) : jSA Γ Q 186 (o_ic (1)) 1 := so_iconst E.2.2.1 rfl dX7_meet_186
theorem oo_X7_meet_187 {Γ : jΓ} {Q : jPost} (E : E_X7_meet Γ Q) : jSA Γ Q 187 (o_iadd) 1 := so_iadd E.2.2.1 dX7_meet_187
theorem oo_X7_meet_188 {Γ : jΓ} {Q : jPost} (E : E_X7_meet Γ Q) : jSA Γ Q 188 (o_putf 7 14) 3 := so_putf (ci := 7) E.2.2.1 tyX7 tyX7_ok nmX7 wi_X7_meet_X7 (by rw [E.2.1]; rfl) 14 (by decide) wl_X7_meet_94 rfl (by decide +kernel) dX7_meet_188
theorem oo_X7_meet_191 {Γ : jΓ} {Q : jPost} (E : E_X7_meet Γ Q) : jSA Γ Q 191 (o_iinc 1 (1)) 3 := so_iinc E.2.2.1 rfl (by rw [E.1]; decide) dX7_meet_191
theorem oo_X7_meet_194 {Γ : jΓ} {Q : jPost} (E : E_X7_meet Γ Q) : jSA Γ Q 194 (o_goto 2) 3 := so_goto E.2.2.1 (by decide) dX7_meet_194
theorem oo_X7_meet_197 {Γ : jΓ} {Q : jPost} (E : E_X7_meet Γ Q) : jSA Γ Q 197 (o_vret) 1 := so_vret E.2.2.1 E.2.2.2 dX7_meet_197
theorem ok_X7_meet_0 {Γ : jΓ} {Q : jPost} (E : E_X7_meet Γ Q) : jSS Γ Q 0 sg_X7_meet_0 := ⟨oo_X7_meet_0 E, oo_X7_meet_1 E, trivial⟩
theorem ok_X7_meet_2 {Γ : jΓ} {Q : jPost} (E : E_X7_meet Γ Q) : jSS Γ Q 2 sg_X7_meet_2 := ⟨oo_X7_meet_2 E, oo_X7_meet_3 E, oo_X7_meet_4 E, oo_X7_meet_7 E, oo_X7_meet_10 E, oo_X7_meet_11 E, oo_X7_meet_12 E, oo_X7_meet_13 E, oo_X7_meet_14 E, oo_X7_meet_15 E, trivial⟩
theorem ok_X7_meet_17 {Γ : jΓ} {Q : jPost} (E : E_X7_meet Γ Q) : jSS Γ Q 17 sg_X7_meet_17 := ⟨oo_X7_meet_17 E, oo_X7_meet_19 E, oo_X7_meet_20 E, oo_X7_meet_23 E, oo_X7_meet_26 E, oo_X7_meet_27 E, oo_X7_meet_30 E, oo_X7_meet_32 E, oo_X7_meet_33 E, oo_X7_meet_34 E, oo_X7_meet_37 E, oo_X7_meet_38 E, oo_X7_meet_39 E, oo_X7_meet_42 E, oo_X7_meet_43 E, oo_X7_meet_46 E, oo_X7_meet_48 E, oo_X7_meet_49 E, oo_X7_meet_50 E, oo_X7_meet_53 E, oo_X7_meet_54 E, oo_X7_meet_55 E, oo_X7_meet_58 E, oo_X7_meet_59 E, trivial⟩
theorem ok_X7_meet_62 {Γ : jΓ} {Q : jPost} (E : E_X7_meet Γ Q) : jSS Γ Q 62 sg_X7_meet_62 := ⟨oo_X7_meet_62 E, trivial⟩
theorem ok_X7_meet_63 {Γ : jΓ} {Q : jPost} (E : E_X7_meet Γ Q) : jSS Γ Q 63 sg_X7_meet_63 := ⟨oo_X7_meet_63 E, oo_X7_meet_65 E, oo_X7_meet_66 E, oo_X7_meet_68 E, oo_X7_meet_71 E, oo_X7_meet_72 E, oo_X7_meet_74 E, oo_X7_meet_75 E, trivial⟩
theorem ok_X7_meet_78 {Γ : jΓ} {Q : jPost} (E : E_X7_meet Γ Q) : jSS Γ Q 78 sg_X7_meet_78 := ⟨oo_X7_meet_78 E, oo_X7_meet_79 E, oo_X7_meet_80 E, oo_X7_meet_81 E, oo_X7_meet_82 E, oo_X7_meet_85 E, oo_X7_meet_87 E, oo_X7_meet_90 E, oo_X7_meet_92 E, oo_X7_meet_93 E, oo_X7_meet_96 E, oo_X7_meet_97 E, trivial⟩
theorem ok_X7_meet_79 {Γ : jΓ} {Q : jPost} (E : E_X7_meet Γ Q) : jSS Γ Q 79 sg_X7_meet_79 := ⟨oo_X7_meet_79 E, oo_X7_meet_80 E, oo_X7_meet_81 E, oo_X7_meet_82 E, oo_X7_meet_85 E, oo_X7_meet_87 E, oo_X7_meet_90 E, oo_X7_meet_92 E, oo_X7_meet_93 E, oo_X7_meet_96 E, oo_X7_meet_97 E, trivial⟩
theorem ok_X7_meet_96 {Γ : jΓ} {Q : jPost} (E : E_X7_meet Γ Q) : jSS Γ Q 96 sg_X7_meet_96 := ⟨oo_X7_meet_96 E, oo_X7_meet_97 E, trivial⟩
theorem ok_X7_meet_100 {Γ : jΓ} {Q : jPost} (E : E_X7_meet Γ Q) : jSS Γ Q 100 sg_X7_meet_100 := ⟨oo_X7_meet_100 E, oo_X7_meet_101 E, oo_X7_meet_102 E, oo_X7_meet_105 E, trivial⟩
theorem ok_X7_meet_101 {Γ : jΓ} {Q : jPost} (E : E_X7_meet Γ Q) : jSS Γ Q 101 sg_X7_meet_101 := ⟨oo_X7_meet_101 E, oo_X7_meet_102 E, oo_X7_meet_105 E, trivial⟩
theorem ok_X7_meet_108 {Γ : jΓ} {Q : jPost} (E : E_X7_meet Γ Q) : jSS Γ Q 108 sg_X7_meet_108 := ⟨oo_X7_meet_108 E, oo_X7_meet_109 E, oo_X7_meet_112 E, oo_X7_meet_113 E, oo_X7_meet_114 E, oo_X7_meet_115 E, oo_X7_meet_116 E, oo_X7_meet_119 E, oo_X7_meet_120 E, oo_X7_meet_123 E, oo_X7_meet_125 E, oo_X7_meet_128 E, oo_X7_meet_129 E, oo_X7_meet_132 E, oo_X7_meet_133 E, oo_X7_meet_136 E, oo_X7_meet_137 E, oo_X7_meet_140 E, oo_X7_meet_141 E, oo_X7_meet_142 E, oo_X7_meet_145 E, oo_X7_meet_146 E, oo_X7_meet_149 E, oo_X7_meet_150 E, oo_X7_meet_153 E, oo_X7_meet_154 E, oo_X7_meet_155 E, oo_X7_meet_156 E, oo_X7_meet_157 E, oo_X7_meet_160 E, oo_X7_meet_161 E, oo_X7_meet_164 E, oo_X7_meet_165 E, oo_X7_meet_168 E, oo_X7_meet_169 E, oo_X7_meet_170 E, oo_X7_meet_171 E, oo_X7_meet_172 E, oo_X7_meet_175 E, oo_X7_meet_176 E, oo_X7_meet_179 E, oo_X7_meet_180 E, oo_X7_meet_181 E, oo_X7_meet_182 E, oo_X7_meet_183 E, oo_X7_meet_186 E, oo_X7_meet_187 E, oo_X7_meet_188 E, oo_X7_meet_191 E, oo_X7_meet_194 E, trivial⟩
theorem ok_X7_meet_181 {Γ : jΓ} {Q : jPost} (E : E_X7_meet Γ Q) : jSS Γ Q 181 sg_X7_meet_181 := ⟨oo_X7_meet_181 E, oo_X7_meet_182 E, oo_X7_meet_183 E, oo_X7_meet_186 E, oo_X7_meet_187 E, oo_X7_meet_188 E, oo_X7_meet_191 E, oo_X7_meet_194 E, trivial⟩
theorem ok_X7_meet_191 {Γ : jΓ} {Q : jPost} (E : E_X7_meet Γ Q) : jSS Γ Q 191 sg_X7_meet_191 := ⟨oo_X7_meet_191 E, oo_X7_meet_194 E, trivial⟩
theorem ok_X7_meet_197 {Γ : jΓ} {Q : jPost} (E : E_X7_meet Γ Q) : jSS Γ Q 197 sg_X7_meet_197 := ⟨oo_X7_meet_197 E, trivial⟩
theorem okc_X7_meet {Γ : jΓ} {Q : jPost} (E : E_X7_meet Γ Q) (t : Nat) : jSS Γ Q t (cd_X7_meet t) := by
  unfold cd_X7_meet
  split
  · exact ok_X7_meet_62 E
  · exact ok_X7_meet_78 E
  · exact ok_X7_meet_79 E
  · exact ok_X7_meet_96 E
  · exact ok_X7_meet_100 E
  · exact ok_X7_meet_101 E
  · exact ok_X7_meet_181 E
  · exact ok_X7_meet_191 E
  · exact ok_X7_meet_197 E
  · trivial
theorem m_X7_meet_of (l : Launch) (hv : ∀ (G : jGt) (Q : jPost) (vs : List Value) (K : List jK) (h : jM), jHd cd_X7_meet G Q sg_X7_meet_0 0 → jHd cd_X7_meet G Q sg_X7_meet_2 2 → jHd cd_X7_meet G Q sg_X7_meet_17 17 → jHd cd_X7_meet G Q sg_X7_meet_63 63 → jHd cd_X7_meet G Q sg_X7_meet_108 108 → T_X7_meet vs K h Q → (lg_sl vs).length ≤ 6 ∧ G 0 (jinit vs 6) [] K h 0 0) : jHolds vwCl l yX7_meet wsX7_meet 0 0 0 0 T_X7_meet := by
  refine jMet (cc := cX7_meet) (maxL := 6) (rt := none) (by decide +kernel) rfl (fun Γ Q vs K h hl hn hcl C hR hT => hv (jG Γ) Q vs K h ?_ ?_ ?_ ?_ ?_ hT)
  · exact fun n L st K h ce sl => jwp_ok (okc_X7_meet ⟨hn, hcl, C, hR⟩) n sg_X7_meet_0 0 (ok_X7_meet_0 ⟨hn, hcl, C, hR⟩) L st K h ce sl
  · exact fun n L st K h ce sl => jwp_ok (okc_X7_meet ⟨hn, hcl, C, hR⟩) n sg_X7_meet_2 2 (ok_X7_meet_2 ⟨hn, hcl, C, hR⟩) L st K h ce sl
  · exact fun n L st K h ce sl => jwp_ok (okc_X7_meet ⟨hn, hcl, C, hR⟩) n sg_X7_meet_17 17 (ok_X7_meet_17 ⟨hn, hcl, C, hR⟩) L st K h ce sl
  · exact fun n L st K h ce sl => jwp_ok (okc_X7_meet ⟨hn, hcl, C, hR⟩) n sg_X7_meet_63 63 (ok_X7_meet_63 ⟨hn, hcl, C, hR⟩) L st K h ce sl
  · exact fun n L st K h ce sl => jwp_ok (okc_X7_meet ⟨hn, hcl, C, hR⟩) n sg_X7_meet_108 108 (ok_X7_meet_108 ⟨hn, hcl, C, hR⟩) L st K h ce sl
set_option maxHeartbeats 4000000 in
set_option maxRecDepth 100000 in
theorem v_X7_meet {G : jGt} {Q : jPost} {K : List jK} {h : jM}  (hT : jXM K ∧ (∃ cnt : Nat, cnt ≤ 6 ∧ h 37 8 = nI cnt ∧ (0 ≤ (h 37 14).toInt ∧ (h 37 14).toInt + 6 < 2147483648) ∧ Q none K (mMt h cnt cnt))) (H0 : jHd cd_X7_meet G Q sg_X7_meet_0 0) (H2 : jHd cd_X7_meet G Q sg_X7_meet_2 2) (H17 : jHd cd_X7_meet G Q sg_X7_meet_17 17) (H63 : jHd cd_X7_meet G Q sg_X7_meet_63 63) (H108 : jHd cd_X7_meet G Q sg_X7_meet_108 108) : G 0 [some (.ref 37), none, none, none, none, none] [] K h 0 0 := by
  obtain ⟨hM, cnt, hc6, hcnt, ⟨hm0, hm1⟩, hT⟩ := hT
  have inner : ∀ (g : jM) (i : Nat), i < cnt → g 37 8 = nI cnt → (∀ x5, G 108 [some (.ref 37), some (.int (nI i)), some (.int (jwho (cut6 (g 42)) (cut6 (g 43)) i cnt)), some (.int (jb (∀ q, q < cnt → ¬ (cut6 (g 42) q = cut6 (g 42) i ∧ cut6 (g 43) q = cut6 (g 43) i) ∨ i ≤ q))), some (.int (nI cnt)), x5] [] K g 0 0) → ∀ n j, j + n = cnt → ∀ x5, G 17 [some (.ref 37), some (.int (nI i)), some (.int (jwho (cut6 (g 42)) (cut6 (g 43)) i j)), some (.int (jb (∀ q, q < j → ¬ (cut6 (g 42) q = cut6 (g 42) i ∧ cut6 (g 43) q = cut6 (g 43) i) ∨ i ≤ q))), some (.int (nI j)), x5] [] K g 0 0 := by
    intro g i hi hgc hend n
    induction n with
    | zero =>
      intro j hj x5
      have : j = cnt := by omega
      subst this
      refine H17 60 _ _ _ _ _ _ ?_
      simp only [sg_X7_meet_0, sg_X7_meet_2, sg_X7_meet_17, sg_X7_meet_62, sg_X7_meet_63, sg_X7_meet_78, sg_X7_meet_79, sg_X7_meet_96, sg_X7_meet_100, sg_X7_meet_101, sg_X7_meet_108, sg_X7_meet_181, sg_X7_meet_191, sg_X7_meet_197, cd_X7_meet, jwp, o_ic, o_lc, o_iload, o_lload, o_aload, o_istore, o_lstore, o_astore, o_iinc, o_pop, o_dup, o_dup2, o_iadd, o_isub, o_imul, o_iand, o_ior, o_ishl, o_ladd, o_lmul, o_land, o_lor, o_idiv, o_irem, o_ineg, o_i2l, o_l2i, o_i2b, o_i2s, o_lushr, o_lshr, o_lshl, o_lcmp, o_ifeq, o_ifne, o_iflt, o_ifge, o_ifgt, o_ifle, o_iceq, o_icne, o_iclt, o_icge, o_icgt, o_icle, o_goto, o_tsw, jsw, o_lsw, jlk, o_getf, o_putf, o_putz, o_iald, o_zald, o_iast, o_zast, o_aald, o_alen, o_gets, o_zld, o_zlen, o_cpy, o_call, o_callV, o_ireti, o_iretz, o_lret, o_vret, jg, js, jkp, jkill, jsp, jcs, jfw, jov, Value.category, Option.toList_some, Option.toList_none, List.nil_append, List.cons_append, List.append_nil, Nat.reduceAdd, true_and, and_true, jb0, jb01, jb1, jem, true_or, or_true, Classical.not_not, forall_const, List.length_cons, List.length_nil, Nat.reduceLeDiff, Nat.zero_le, Nat.reduceLT, hM, km_37_0 hM, km_37_1 hM, km_37_2 hM, km_37_3 hM, km_37_4 hM, km_37_5 hM, km_37_6 hM, km_37_7 hM, km_37_8 hM, km_37_9 hM, km_37_10 hM, km_37_11 hM, km_37_12 hM, km_37_13 hM, km_37_14 hM, km_37_15 hM, km_37_16 hM, km_37_17 hM, km_37_18 hM, km_37_19 hM, km_37_20 hM, km_37_21 hM, km_37_22 hM, km_37_23 hM, km_37_24 hM, km_37_25 hM, km_37_26 hM, km_37_27 hM, km_37_28 hM, km_37_29 hM, km_37_30 hM, km_37_31 hM, km_37_32 hM, kmo_37 hM, kma_38 hM, kma_39 hM, kma_40 hM, kma_41 hM, kma_42 hM, kma_43 hM, kma_44 hM, kma_45 hM, kma_46 hM, kma_47 hM, kma_48 hM, kma_49 hM, kma_50 hM, kma_52 hM, kma_53 hM, kma_54 hM, kma_55 hM, kma_56 hM, kma_51 hM]
      rw [hgc]
      exact ⟨fun _ => hend x5, fun q => absurd (Int32.le_refl _) q⟩
    | succ n ih =>
      intro j hj x5
      have hi31 : i < 2147483648 := by omega
      have hj31 : j < 2147483648 := by omega
      have vi : vp_in (nI i) 6 := vp_in_nI (by omega) (by decide)
      have vj : vp_in (nI j) 6 := vp_in_nI (by omega) (by decide)
      have h2 := ih (j + 1) (by omega)
      have eq0 : (cut6 (g 42) j = cut6 (g 42) i ∧ cut6 (g 43) j = cut6 (g 43) i) = (g 42 j = g 42 i ∧ g 43 j = g 43 i) := by
        rw [cut6_at _ (by omega), cut6_at _ (by omega), cut6_at _ (by omega), cut6_at _ (by omega)]
      refine H17 60 _ _ _ _ _ _ ?_
      simp only [sg_X7_meet_0, sg_X7_meet_2, sg_X7_meet_17, sg_X7_meet_62, sg_X7_meet_63, sg_X7_meet_78, sg_X7_meet_79, sg_X7_meet_96, sg_X7_meet_100, sg_X7_meet_101, sg_X7_meet_108, sg_X7_meet_181, sg_X7_meet_191, sg_X7_meet_197, cd_X7_meet, jwp, o_ic, o_lc, o_iload, o_lload, o_aload, o_istore, o_lstore, o_astore, o_iinc, o_pop, o_dup, o_dup2, o_iadd, o_isub, o_imul, o_iand, o_ior, o_ishl, o_ladd, o_lmul, o_land, o_lor, o_idiv, o_irem, o_ineg, o_i2l, o_l2i, o_i2b, o_i2s, o_lushr, o_lshr, o_lshl, o_lcmp, o_ifeq, o_ifne, o_iflt, o_ifge, o_ifgt, o_ifle, o_iceq, o_icne, o_iclt, o_icge, o_icgt, o_icle, o_goto, o_tsw, jsw, o_lsw, jlk, o_getf, o_putf, o_putz, o_iald, o_zald, o_iast, o_zast, o_aald, o_alen, o_gets, o_zld, o_zlen, o_cpy, o_call, o_callV, o_ireti, o_iretz, o_lret, o_vret, jg, js, jkp, jkill, jsp, jcs, jfw, jov, Value.category, Option.toList_some, Option.toList_none, List.nil_append, List.cons_append, List.append_nil, Nat.reduceAdd, true_and, and_true, jb0, jb01, jb1, jem, true_or, or_true, Classical.not_not, forall_const, List.length_cons, List.length_nil, Nat.reduceLeDiff, Nat.zero_le, Nat.reduceLT, hM, km_37_0 hM, km_37_1 hM, km_37_2 hM, km_37_3 hM, km_37_4 hM, km_37_5 hM, km_37_6 hM, km_37_7 hM, km_37_8 hM, km_37_9 hM, km_37_10 hM, km_37_11 hM, km_37_12 hM, km_37_13 hM, km_37_14 hM, km_37_15 hM, km_37_16 hM, km_37_17 hM, km_37_18 hM, km_37_19 hM, km_37_20 hM, km_37_21 hM, km_37_22 hM, km_37_23 hM, km_37_24 hM, km_37_25 hM, km_37_26 hM, km_37_27 hM, km_37_28 hM, km_37_29 hM, km_37_30 hM, km_37_31 hM, km_37_32 hM, kmo_37 hM, kma_38 hM, kma_39 hM, kma_40 hM, kma_41 hM, kma_42 hM, kma_43 hM, kma_44 hM, kma_45 hM, kma_46 hM, kma_47 hM, kma_48 hM, kma_49 hM, kma_50 hM, kma_52 hM, kma_53 hM, kma_54 hM, kma_55 hM, kma_56 hM, kma_51 hM, vi, vj, nI_clamp hi31, nI_clamp hj31]
      rw [hgc]
      refine ⟨fun q => absurd ((nI_leI (by omega) (by omega)).mp q) (by omega), fun _ => ?_⟩
      have ebit : (1 : Int32) <<< (nI j &&& 31) = jbit j := rfl
      have e2 : (∀ q, q < j + 1 → ¬ (cut6 (g 42) q = cut6 (g 42) i ∧ cut6 (g 43) q = cut6 (g 43) i) ∨ i ≤ q) = ((∀ q, q < j → ¬ (cut6 (g 42) q = cut6 (g 42) i ∧ cut6 (g 43) q = cut6 (g 43) i) ∨ i ≤ q) ∧ (¬ (g 42 j = g 42 i ∧ g 43 j = g 43 i) ∨ i ≤ j)) := by
        apply propext
        constructor
        · intro z
          refine ⟨fun q hq => z q (by omega), ?_⟩
          have := z j (by omega)
          rw [eq0] at this
          exact this
        · rintro ⟨z1, z2⟩ q hq
          by_cases e : q = j
          · subst e
            rw [eq0]
            exact z2
          · exact z1 q (by omega)
      have hLs : (g 42 j = g 42 i ∧ g 43 j = g 43 i) → jwho (cut6 (g 42)) (cut6 (g 43)) i (j + 1) = jwho (cut6 (g 42)) (cut6 (g 43)) i j ||| jbit j := fun z => jwho_s (by rw [eq0]; exact z)
      have hLn : ¬ (g 42 j = g 42 i ∧ g 43 j = g 43 i) → jwho (cut6 (g 42)) (cut6 (g 43)) i (j + 1) = jwho (cut6 (g 42)) (cut6 (g 43)) i j := fun z => jwho_n (by rw [eq0]; exact z)
      rw [e2] at h2
      -- the two bits that go on: same, and least so far
      have fin : ∀ b : Int32, ((g 42 j = g 42 i ∧ g 43 j = g 43 i) ∧ b = 1) ∨ (¬ (g 42 j = g 42 i ∧ g 43 j = g 43 i) ∧ b = 0) → G 63 [some (.ref 37), some (.int (nI i)), some (.int (jwho (cut6 (g 42)) (cut6 (g 43)) i j)), some (.int (jb (∀ q, q < j → ¬ (cut6 (g 42) q = cut6 (g 42) i ∧ cut6 (g 43) q = cut6 (g 43) i) ∨ i ≤ q))), some (.int (nI j)), x5] [.int b] K g 0 0 := by
        intro b hb
        generalize (∀ q, q < j → ¬ (cut6 (g 42) q = cut6 (g 42) i ∧ cut6 (g 43) q = cut6 (g 43) i) ∨ i ≤ q) = lt at h2 ⊢
        rcases hb with ⟨hs, rfl⟩ | ⟨hs, rfl⟩
        · rw [hLs hs] at h2
          have e3 : (lt ∧ (¬ (g 42 j = g 42 i ∧ g 43 j = g 43 i) ∨ i ≤ j)) = (lt ∧ i ≤ j) := propext ⟨fun z => ⟨z.1, z.2.elim (fun y => absurd hs y) id⟩, fun z => ⟨z.1, Or.inr z.2⟩⟩
          rw [e3] at h2
          generalize jwho (cut6 (g 42)) (cut6 (g 43)) i j = w at h2 ⊢
          refine H63 60 _ _ _ _ _ _ ?_
          by_cases z2 : lt
          · by_cases z3 : i ≤ j
            · rw [jb_pos (⟨z2, z3⟩ : lt ∧ i ≤ j)] at h2
              simp only [sg_X7_meet_0, sg_X7_meet_2, sg_X7_meet_17, sg_X7_meet_62, sg_X7_meet_63, sg_X7_meet_78, sg_X7_meet_79, sg_X7_meet_96, sg_X7_meet_100, sg_X7_meet_101, sg_X7_meet_108, sg_X7_meet_181, sg_X7_meet_191, sg_X7_meet_197, cd_X7_meet, jwp, o_ic, o_lc, o_iload, o_lload, o_aload, o_istore, o_lstore, o_astore, o_iinc, o_pop, o_dup, o_dup2, o_iadd, o_isub, o_imul, o_iand, o_ior, o_ishl, o_ladd, o_lmul, o_land, o_lor, o_idiv, o_irem, o_ineg, o_i2l, o_l2i, o_i2b, o_i2s, o_lushr, o_lshr, o_lshl, o_lcmp, o_ifeq, o_ifne, o_iflt, o_ifge, o_ifgt, o_ifle, o_iceq, o_icne, o_iclt, o_icge, o_icgt, o_icle, o_goto, o_tsw, jsw, o_lsw, jlk, o_getf, o_putf, o_putz, o_iald, o_zald, o_iast, o_zast, o_aald, o_alen, o_gets, o_zld, o_zlen, o_cpy, o_call, o_callV, o_ireti, o_iretz, o_lret, o_vret, jg, js, jkp, jkill, jsp, jcs, jfw, jov, Value.category, Option.toList_some, Option.toList_none, List.nil_append, List.cons_append, List.append_nil, Nat.reduceAdd, true_and, and_true, jb0, jb01, jb1, jem, true_or, or_true, Classical.not_not, forall_const, List.length_cons, List.length_nil, Nat.reduceLeDiff, Nat.zero_le, Nat.reduceLT, and_self, not_true_eq_false, not_false_eq_true, false_imp_iff, true_imp_iff, implies_true, and_false, false_and, or_false, false_or, hM, km_37_0 hM, km_37_1 hM, km_37_2 hM, km_37_3 hM, km_37_4 hM, km_37_5 hM, km_37_6 hM, km_37_7 hM, km_37_8 hM, km_37_9 hM, km_37_10 hM, km_37_11 hM, km_37_12 hM, km_37_13 hM, km_37_14 hM, km_37_15 hM, km_37_16 hM, km_37_17 hM, km_37_18 hM, km_37_19 hM, km_37_20 hM, km_37_21 hM, km_37_22 hM, km_37_23 hM, km_37_24 hM, km_37_25 hM, km_37_26 hM, km_37_27 hM, km_37_28 hM, km_37_29 hM, km_37_30 hM, km_37_31 hM, km_37_32 hM, kmo_37 hM, kma_38 hM, kma_39 hM, kma_40 hM, kma_41 hM, kma_42 hM, kma_43 hM, kma_44 hM, kma_45 hM, kma_46 hM, kma_47 hM, kma_48 hM, kma_49 hM, kma_50 hM, kma_52 hM, kma_53 hM, kma_54 hM, kma_55 hM, kma_56 hM, kma_51 hM, z2, ebit, nI_1]
              exact ⟨fun q => absurd q (by decide), fun _ => ⟨fun q => absurd q (by decide), fun _ => ⟨fun q => absurd ((nI_ltI (by omega) (by omega)).mp q) (by omega), fun _ => h2 _⟩⟩⟩
            · rw [jb_neg (fun z : lt ∧ i ≤ j => z3 z.2)] at h2
              simp only [sg_X7_meet_0, sg_X7_meet_2, sg_X7_meet_17, sg_X7_meet_62, sg_X7_meet_63, sg_X7_meet_78, sg_X7_meet_79, sg_X7_meet_96, sg_X7_meet_100, sg_X7_meet_101, sg_X7_meet_108, sg_X7_meet_181, sg_X7_meet_191, sg_X7_meet_197, cd_X7_meet, jwp, o_ic, o_lc, o_iload, o_lload, o_aload, o_istore, o_lstore, o_astore, o_iinc, o_pop, o_dup, o_dup2, o_iadd, o_isub, o_imul, o_iand, o_ior, o_ishl, o_ladd, o_lmul, o_land, o_lor, o_idiv, o_irem, o_ineg, o_i2l, o_l2i, o_i2b, o_i2s, o_lushr, o_lshr, o_lshl, o_lcmp, o_ifeq, o_ifne, o_iflt, o_ifge, o_ifgt, o_ifle, o_iceq, o_icne, o_iclt, o_icge, o_icgt, o_icle, o_goto, o_tsw, jsw, o_lsw, jlk, o_getf, o_putf, o_putz, o_iald, o_zald, o_iast, o_zast, o_aald, o_alen, o_gets, o_zld, o_zlen, o_cpy, o_call, o_callV, o_ireti, o_iretz, o_lret, o_vret, jg, js, jkp, jkill, jsp, jcs, jfw, jov, Value.category, Option.toList_some, Option.toList_none, List.nil_append, List.cons_append, List.append_nil, Nat.reduceAdd, true_and, and_true, jb0, jb01, jb1, jem, true_or, or_true, Classical.not_not, forall_const, List.length_cons, List.length_nil, Nat.reduceLeDiff, Nat.zero_le, Nat.reduceLT, and_self, not_true_eq_false, not_false_eq_true, false_imp_iff, true_imp_iff, implies_true, and_false, false_and, or_false, false_or, hM, km_37_0 hM, km_37_1 hM, km_37_2 hM, km_37_3 hM, km_37_4 hM, km_37_5 hM, km_37_6 hM, km_37_7 hM, km_37_8 hM, km_37_9 hM, km_37_10 hM, km_37_11 hM, km_37_12 hM, km_37_13 hM, km_37_14 hM, km_37_15 hM, km_37_16 hM, km_37_17 hM, km_37_18 hM, km_37_19 hM, km_37_20 hM, km_37_21 hM, km_37_22 hM, km_37_23 hM, km_37_24 hM, km_37_25 hM, km_37_26 hM, km_37_27 hM, km_37_28 hM, km_37_29 hM, km_37_30 hM, km_37_31 hM, km_37_32 hM, kmo_37 hM, kma_38 hM, kma_39 hM, kma_40 hM, kma_41 hM, kma_42 hM, kma_43 hM, kma_44 hM, kma_45 hM, kma_46 hM, kma_47 hM, kma_48 hM, kma_49 hM, kma_50 hM, kma_52 hM, kma_53 hM, kma_54 hM, kma_55 hM, kma_56 hM, kma_51 hM, z2, ebit, nI_1]
              exact ⟨fun q => absurd q (by decide), fun _ => ⟨fun q => absurd q (by decide), fun _ => ⟨fun _ => h2 _, fun q => absurd ((nI_ltI (by omega) (by omega)).mpr (by omega)) q⟩⟩⟩
          · rw [jb_neg (fun z : lt ∧ i ≤ j => z2 z.1)] at h2
            simp only [sg_X7_meet_0, sg_X7_meet_2, sg_X7_meet_17, sg_X7_meet_62, sg_X7_meet_63, sg_X7_meet_78, sg_X7_meet_79, sg_X7_meet_96, sg_X7_meet_100, sg_X7_meet_101, sg_X7_meet_108, sg_X7_meet_181, sg_X7_meet_191, sg_X7_meet_197, cd_X7_meet, jwp, o_ic, o_lc, o_iload, o_lload, o_aload, o_istore, o_lstore, o_astore, o_iinc, o_pop, o_dup, o_dup2, o_iadd, o_isub, o_imul, o_iand, o_ior, o_ishl, o_ladd, o_lmul, o_land, o_lor, o_idiv, o_irem, o_ineg, o_i2l, o_l2i, o_i2b, o_i2s, o_lushr, o_lshr, o_lshl, o_lcmp, o_ifeq, o_ifne, o_iflt, o_ifge, o_ifgt, o_ifle, o_iceq, o_icne, o_iclt, o_icge, o_icgt, o_icle, o_goto, o_tsw, jsw, o_lsw, jlk, o_getf, o_putf, o_putz, o_iald, o_zald, o_iast, o_zast, o_aald, o_alen, o_gets, o_zld, o_zlen, o_cpy, o_call, o_callV, o_ireti, o_iretz, o_lret, o_vret, jg, js, jkp, jkill, jsp, jcs, jfw, jov, Value.category, Option.toList_some, Option.toList_none, List.nil_append, List.cons_append, List.append_nil, Nat.reduceAdd, true_and, and_true, jb0, jb01, jb1, jem, true_or, or_true, Classical.not_not, forall_const, List.length_cons, List.length_nil, Nat.reduceLeDiff, Nat.zero_le, Nat.reduceLT, and_self, not_true_eq_false, not_false_eq_true, false_imp_iff, true_imp_iff, implies_true, and_false, false_and, or_false, false_or, hM, km_37_0 hM, km_37_1 hM, km_37_2 hM, km_37_3 hM, km_37_4 hM, km_37_5 hM, km_37_6 hM, km_37_7 hM, km_37_8 hM, km_37_9 hM, km_37_10 hM, km_37_11 hM, km_37_12 hM, km_37_13 hM, km_37_14 hM, km_37_15 hM, km_37_16 hM, km_37_17 hM, km_37_18 hM, km_37_19 hM, km_37_20 hM, km_37_21 hM, km_37_22 hM, km_37_23 hM, km_37_24 hM, km_37_25 hM, km_37_26 hM, km_37_27 hM, km_37_28 hM, km_37_29 hM, km_37_30 hM, km_37_31 hM, km_37_32 hM, kmo_37 hM, kma_38 hM, kma_39 hM, kma_40 hM, kma_41 hM, kma_42 hM, kma_43 hM, kma_44 hM, kma_45 hM, kma_46 hM, kma_47 hM, kma_48 hM, kma_49 hM, kma_50 hM, kma_52 hM, kma_53 hM, kma_54 hM, kma_55 hM, kma_56 hM, kma_51 hM, z2, ebit, nI_1]
            grind
        · rw [hLn hs] at h2
          have e3 : (lt ∧ (¬ (g 42 j = g 42 i ∧ g 43 j = g 43 i) ∨ i ≤ j)) = lt := propext ⟨fun z => z.1, fun z => ⟨z, Or.inl hs⟩⟩
          rw [e3] at h2
          generalize jwho (cut6 (g 42)) (cut6 (g 43)) i j = w at h2 ⊢
          have eor : w ||| 0 = w := by
            apply Int32.toBitVec_inj.mp
            simp
          refine H63 60 _ _ _ _ _ _ ?_
          by_cases z2 : lt
          · rw [jb_pos z2] at h2
            simp only [sg_X7_meet_0, sg_X7_meet_2, sg_X7_meet_17, sg_X7_meet_62, sg_X7_meet_63, sg_X7_meet_78, sg_X7_meet_79, sg_X7_meet_96, sg_X7_meet_100, sg_X7_meet_101, sg_X7_meet_108, sg_X7_meet_181, sg_X7_meet_191, sg_X7_meet_197, cd_X7_meet, jwp, o_ic, o_lc, o_iload, o_lload, o_aload, o_istore, o_lstore, o_astore, o_iinc, o_pop, o_dup, o_dup2, o_iadd, o_isub, o_imul, o_iand, o_ior, o_ishl, o_ladd, o_lmul, o_land, o_lor, o_idiv, o_irem, o_ineg, o_i2l, o_l2i, o_i2b, o_i2s, o_lushr, o_lshr, o_lshl, o_lcmp, o_ifeq, o_ifne, o_iflt, o_ifge, o_ifgt, o_ifle, o_iceq, o_icne, o_iclt, o_icge, o_icgt, o_icle, o_goto, o_tsw, jsw, o_lsw, jlk, o_getf, o_putf, o_putz, o_iald, o_zald, o_iast, o_zast, o_aald, o_alen, o_gets, o_zld, o_zlen, o_cpy, o_call, o_callV, o_ireti, o_iretz, o_lret, o_vret, jg, js, jkp, jkill, jsp, jcs, jfw, jov, Value.category, Option.toList_some, Option.toList_none, List.nil_append, List.cons_append, List.append_nil, Nat.reduceAdd, true_and, and_true, jb0, jb01, jb1, jem, true_or, or_true, Classical.not_not, forall_const, List.length_cons, List.length_nil, Nat.reduceLeDiff, Nat.zero_le, Nat.reduceLT, and_self, not_true_eq_false, not_false_eq_true, false_imp_iff, true_imp_iff, implies_true, and_false, false_and, or_false, false_or, hM, km_37_0 hM, km_37_1 hM, km_37_2 hM, km_37_3 hM, km_37_4 hM, km_37_5 hM, km_37_6 hM, km_37_7 hM, km_37_8 hM, km_37_9 hM, km_37_10 hM, km_37_11 hM, km_37_12 hM, km_37_13 hM, km_37_14 hM, km_37_15 hM, km_37_16 hM, km_37_17 hM, km_37_18 hM, km_37_19 hM, km_37_20 hM, km_37_21 hM, km_37_22 hM, km_37_23 hM, km_37_24 hM, km_37_25 hM, km_37_26 hM, km_37_27 hM, km_37_28 hM, km_37_29 hM, km_37_30 hM, km_37_31 hM, km_37_32 hM, kmo_37 hM, kma_38 hM, kma_39 hM, kma_40 hM, kma_41 hM, kma_42 hM, kma_43 hM, kma_44 hM, kma_45 hM, kma_46 hM, kma_47 hM, kma_48 hM, kma_49 hM, kma_50 hM, kma_52 hM, kma_53 hM, kma_54 hM, kma_55 hM, kma_56 hM, kma_51 hM, z2, nI_1, eor]
            grind
          · rw [jb_neg z2] at h2
            simp only [sg_X7_meet_0, sg_X7_meet_2, sg_X7_meet_17, sg_X7_meet_62, sg_X7_meet_63, sg_X7_meet_78, sg_X7_meet_79, sg_X7_meet_96, sg_X7_meet_100, sg_X7_meet_101, sg_X7_meet_108, sg_X7_meet_181, sg_X7_meet_191, sg_X7_meet_197, cd_X7_meet, jwp, o_ic, o_lc, o_iload, o_lload, o_aload, o_istore, o_lstore, o_astore, o_iinc, o_pop, o_dup, o_dup2, o_iadd, o_isub, o_imul, o_iand, o_ior, o_ishl, o_ladd, o_lmul, o_land, o_lor, o_idiv, o_irem, o_ineg, o_i2l, o_l2i, o_i2b, o_i2s, o_lushr, o_lshr, o_lshl, o_lcmp, o_ifeq, o_ifne, o_iflt, o_ifge, o_ifgt, o_ifle, o_iceq, o_icne, o_iclt, o_icge, o_icgt, o_icle, o_goto, o_tsw, jsw, o_lsw, jlk, o_getf, o_putf, o_putz, o_iald, o_zald, o_iast, o_zast, o_aald, o_alen, o_gets, o_zld, o_zlen, o_cpy, o_call, o_callV, o_ireti, o_iretz, o_lret, o_vret, jg, js, jkp, jkill, jsp, jcs, jfw, jov, Value.category, Option.toList_some, Option.toList_none, List.nil_append, List.cons_append, List.append_nil, Nat.reduceAdd, true_and, and_true, jb0, jb01, jb1, jem, true_or, or_true, Classical.not_not, forall_const, List.length_cons, List.length_nil, Nat.reduceLeDiff, Nat.zero_le, Nat.reduceLT, and_self, not_true_eq_false, not_false_eq_true, false_imp_iff, true_imp_iff, implies_true, and_false, false_and, or_false, false_or, hM, km_37_0 hM, km_37_1 hM, km_37_2 hM, km_37_3 hM, km_37_4 hM, km_37_5 hM, km_37_6 hM, km_37_7 hM, km_37_8 hM, km_37_9 hM, km_37_10 hM, km_37_11 hM, km_37_12 hM, km_37_13 hM, km_37_14 hM, km_37_15 hM, km_37_16 hM, km_37_17 hM, km_37_18 hM, km_37_19 hM, km_37_20 hM, km_37_21 hM, km_37_22 hM, km_37_23 hM, km_37_24 hM, km_37_25 hM, km_37_26 hM, km_37_27 hM, km_37_28 hM, km_37_29 hM, km_37_30 hM, km_37_31 hM, km_37_32 hM, kmo_37 hM, kma_38 hM, kma_39 hM, kma_40 hM, kma_41 hM, kma_42 hM, kma_43 hM, kma_44 hM, kma_45 hM, kma_46 hM, kma_47 hM, kma_48 hM, kma_49 hM, kma_50 hM, kma_52 hM, kma_53 hM, kma_54 hM, kma_55 hM, kma_56 hM, kma_51 hM, z2, nI_1, eor]
            grind
      refine ⟨fun q => fin 0 (Or.inr ⟨fun z => q z.1, rfl⟩), fun q => ⟨fun q2 => fin 0 (Or.inr ⟨fun z => q2 z.2, rfl⟩), fun q2 => fin 1 (Or.inl ⟨⟨q, q2⟩, rfl⟩)⟩⟩
  have outer : ∀ n i, i + n = cnt → ∀ x2 x3 x4 x5, G 2 [some (.ref 37), some (.int (nI i)), x2, x3, x4, x5] [] K (mMt h cnt i) 0 0 := by
    intro n
    induction n with
    | zero =>
      intro i hi x2 x3 x4 x5
      have : i = cnt := by omega
      subst this
      refine H2 60 _ _ _ _ _ _ ?_
      simp only [sg_X7_meet_0, sg_X7_meet_2, sg_X7_meet_17, sg_X7_meet_62, sg_X7_meet_63, sg_X7_meet_78, sg_X7_meet_79, sg_X7_meet_96, sg_X7_meet_100, sg_X7_meet_101, sg_X7_meet_108, sg_X7_meet_181, sg_X7_meet_191, sg_X7_meet_197, cd_X7_meet, jwp, o_ic, o_lc, o_iload, o_lload, o_aload, o_istore, o_lstore, o_astore, o_iinc, o_pop, o_dup, o_dup2, o_iadd, o_isub, o_imul, o_iand, o_ior, o_ishl, o_ladd, o_lmul, o_land, o_lor, o_idiv, o_irem, o_ineg, o_i2l, o_l2i, o_i2b, o_i2s, o_lushr, o_lshr, o_lshl, o_lcmp, o_ifeq, o_ifne, o_iflt, o_ifge, o_ifgt, o_ifle, o_iceq, o_icne, o_iclt, o_icge, o_icgt, o_icle, o_goto, o_tsw, jsw, o_lsw, jlk, o_getf, o_putf, o_putz, o_iald, o_zald, o_iast, o_zast, o_aald, o_alen, o_gets, o_zld, o_zlen, o_cpy, o_call, o_callV, o_ireti, o_iretz, o_lret, o_vret, jg, js, jkp, jkill, jsp, jcs, jfw, jov, Value.category, Option.toList_some, Option.toList_none, List.nil_append, List.cons_append, List.append_nil, Nat.reduceAdd, true_and, and_true, jb0, jb01, jb1, jem, true_or, or_true, Classical.not_not, forall_const, List.length_cons, List.length_nil, Nat.reduceLeDiff, Nat.zero_le, Nat.reduceLT, hM, km_37_0 hM, km_37_1 hM, km_37_2 hM, km_37_3 hM, km_37_4 hM, km_37_5 hM, km_37_6 hM, km_37_7 hM, km_37_8 hM, km_37_9 hM, km_37_10 hM, km_37_11 hM, km_37_12 hM, km_37_13 hM, km_37_14 hM, km_37_15 hM, km_37_16 hM, km_37_17 hM, km_37_18 hM, km_37_19 hM, km_37_20 hM, km_37_21 hM, km_37_22 hM, km_37_23 hM, km_37_24 hM, km_37_25 hM, km_37_26 hM, km_37_27 hM, km_37_28 hM, km_37_29 hM, km_37_30 hM, km_37_31 hM, km_37_32 hM, kmo_37 hM, kma_38 hM, kma_39 hM, kma_40 hM, kma_41 hM, kma_42 hM, kma_43 hM, kma_44 hM, kma_45 hM, kma_46 hM, kma_47 hM, kma_48 hM, kma_49 hM, kma_50 hM, kma_52 hM, kma_53 hM, kma_54 hM, kma_55 hM, kma_56 hM, kma_51 hM]
      rw [mMt_8, hcnt]
      exact ⟨fun _ => hT, fun q => absurd (Int32.le_refl _) q⟩
    | succ n ih =>
      intro i hi x2 x3 x4 x5
      have hi31 : i < 2147483648 := by omega
      have vi : vp_in (nI i) 6 := vp_in_nI (by omega) (by decide)
      have h2 := ih (i + 1) (by omega)
      have hg := (mMt_o h cnt i).1
      obtain ⟨hp0, hp1⟩ := (mMt_o h cnt i).2 hm0 (by omega)
      refine H2 60 _ _ _ _ _ _ ?_
      simp only [sg_X7_meet_0, sg_X7_meet_2, sg_X7_meet_17, sg_X7_meet_62, sg_X7_meet_63, sg_X7_meet_78, sg_X7_meet_79, sg_X7_meet_96, sg_X7_meet_100, sg_X7_meet_101, sg_X7_meet_108, sg_X7_meet_181, sg_X7_meet_191, sg_X7_meet_197, cd_X7_meet, jwp, o_ic, o_lc, o_iload, o_lload, o_aload, o_istore, o_lstore, o_astore, o_iinc, o_pop, o_dup, o_dup2, o_iadd, o_isub, o_imul, o_iand, o_ior, o_ishl, o_ladd, o_lmul, o_land, o_lor, o_idiv, o_irem, o_ineg, o_i2l, o_l2i, o_i2b, o_i2s, o_lushr, o_lshr, o_lshl, o_lcmp, o_ifeq, o_ifne, o_iflt, o_ifge, o_ifgt, o_ifle, o_iceq, o_icne, o_iclt, o_icge, o_icgt, o_icle, o_goto, o_tsw, jsw, o_lsw, jlk, o_getf, o_putf, o_putz, o_iald, o_zald, o_iast, o_zast, o_aald, o_alen, o_gets, o_zld, o_zlen, o_cpy, o_call, o_callV, o_ireti, o_iretz, o_lret, o_vret, jg, js, jkp, jkill, jsp, jcs, jfw, jov, Value.category, Option.toList_some, Option.toList_none, List.nil_append, List.cons_append, List.append_nil, Nat.reduceAdd, true_and, and_true, jb0, jb01, jb1, jem, true_or, or_true, Classical.not_not, forall_const, List.length_cons, List.length_nil, Nat.reduceLeDiff, Nat.zero_le, Nat.reduceLT, hM, km_37_0 hM, km_37_1 hM, km_37_2 hM, km_37_3 hM, km_37_4 hM, km_37_5 hM, km_37_6 hM, km_37_7 hM, km_37_8 hM, km_37_9 hM, km_37_10 hM, km_37_11 hM, km_37_12 hM, km_37_13 hM, km_37_14 hM, km_37_15 hM, km_37_16 hM, km_37_17 hM, km_37_18 hM, km_37_19 hM, km_37_20 hM, km_37_21 hM, km_37_22 hM, km_37_23 hM, km_37_24 hM, km_37_25 hM, km_37_26 hM, km_37_27 hM, km_37_28 hM, km_37_29 hM, km_37_30 hM, km_37_31 hM, km_37_32 hM, kmo_37 hM, kma_38 hM, kma_39 hM, kma_40 hM, kma_41 hM, kma_42 hM, kma_43 hM, kma_44 hM, kma_45 hM, kma_46 hM, kma_47 hM, kma_48 hM, kma_49 hM, kma_50 hM, kma_52 hM, kma_53 hM, kma_54 hM, kma_55 hM, kma_56 hM, kma_51 hM]
      rw [mMt_8, hcnt]
      refine ⟨fun q => absurd ((nI_leI (by omega) (by omega)).mp q) (by omega), fun _ => ?_⟩
      have e0 : jb (∀ q, q < 0 → ¬ (cut6 (mMt h cnt i 42) q = cut6 (mMt h cnt i 42) i ∧ cut6 (mMt h cnt i 43) q = cut6 (mMt h cnt i 43) i) ∨ i ≤ q) = 1 := jb_pos (fun q hq => by omega)
      have h9 := inner (mMt h cnt i) i (by omega) (by rw [mMt_8, hcnt]) ?_ cnt 0 (by omega) x5
      · rw [e0] at h9
        exact h9
      · intro x5
        rw [hg 42 (by decide), hg 43 (by decide)]
        have ebit : (1 : Int32) <<< (nI i &&& 31) = jbit i := rfl
        have elst : jb (∀ q, q < cnt → ¬ (cut6 (h 42) q = cut6 (h 42) i ∧ cut6 (h 43) q = cut6 (h 43) i) ∨ i ≤ q) = jb (∀ q, q < i → ¬ (cut6 (h 42) q = cut6 (h 42) i ∧ cut6 (h 43) q = cut6 (h 43) i)) := by
          congr 1
          apply propext
          constructor
          · intro z q hq
            exact (z q (by omega)).elim id (fun y => absurd y (by omega))
          · intro z q hq
            by_cases e : q < i
            · exact Or.inl (z q e)
            · exact Or.inr (by omega)
        rw [elst]
        have e42 : ∀ k, k = i → mMt h cnt i 42 k = cut6 (h 42) i := fun k hk => by rw [hk, hg 42 (by decide), cut6_at _ (by omega)]
        have e43 : ∀ k, k = i → mMt h cnt i 43 k = cut6 (h 43) i := fun k hk => by rw [hk, hg 43 (by decide), cut6_at _ (by omega)]
        have e4 : mMt h cnt i 37 4 = h 37 4 := mMt_37 h cnt i (by decide)
        have es := mMt_s (h := h) (cnt := cnt) (i := i)
        have en := mMt_n (h := h) (cnt := cnt) (i := i)
        generalize (∀ q, q < i → ¬ (cut6 (h 42) q = cut6 (h 42) i ∧ cut6 (h 43) q = cut6 (h 43) i)) = lt at es en ⊢
        by_cases z1 : lt
        · by_cases z2 : jwho (cut6 (h 42)) (cut6 (h 43)) i cnt = jbit i
          · have e := en (fun z => z.2 z2)
            rw [e] at h2
            refine H108 80 _ _ _ _ _ _ ?_
            simp only [sg_X7_meet_0, sg_X7_meet_2, sg_X7_meet_17, sg_X7_meet_62, sg_X7_meet_63, sg_X7_meet_78, sg_X7_meet_79, sg_X7_meet_96, sg_X7_meet_100, sg_X7_meet_101, sg_X7_meet_108, sg_X7_meet_181, sg_X7_meet_191, sg_X7_meet_197, cd_X7_meet, jwp, o_ic, o_lc, o_iload, o_lload, o_aload, o_istore, o_lstore, o_astore, o_iinc, o_pop, o_dup, o_dup2, o_iadd, o_isub, o_imul, o_iand, o_ior, o_ishl, o_ladd, o_lmul, o_land, o_lor, o_idiv, o_irem, o_ineg, o_i2l, o_l2i, o_i2b, o_i2s, o_lushr, o_lshr, o_lshl, o_lcmp, o_ifeq, o_ifne, o_iflt, o_ifge, o_ifgt, o_ifle, o_iceq, o_icne, o_iclt, o_icge, o_icgt, o_icle, o_goto, o_tsw, jsw, o_lsw, jlk, o_getf, o_putf, o_putz, o_iald, o_zald, o_iast, o_zast, o_aald, o_alen, o_gets, o_zld, o_zlen, o_cpy, o_call, o_callV, o_ireti, o_iretz, o_lret, o_vret, jg, js, jkp, jkill, jsp, jcs, jfw, jov, Value.category, Option.toList_some, Option.toList_none, List.nil_append, List.cons_append, List.append_nil, Nat.reduceAdd, true_and, and_true, jb0, jb01, jb1, jem, true_or, or_true, Classical.not_not, forall_const, List.length_cons, List.length_nil, Nat.reduceLeDiff, Nat.zero_le, Nat.reduceLT, and_self, not_true_eq_false, not_false_eq_true, false_imp_iff, true_imp_iff, implies_true, and_false, false_and, or_false, false_or, hM, km_37_0 hM, km_37_1 hM, km_37_2 hM, km_37_3 hM, km_37_4 hM, km_37_5 hM, km_37_6 hM, km_37_7 hM, km_37_8 hM, km_37_9 hM, km_37_10 hM, km_37_11 hM, km_37_12 hM, km_37_13 hM, km_37_14 hM, km_37_15 hM, km_37_16 hM, km_37_17 hM, km_37_18 hM, km_37_19 hM, km_37_20 hM, km_37_21 hM, km_37_22 hM, km_37_23 hM, km_37_24 hM, km_37_25 hM, km_37_26 hM, km_37_27 hM, km_37_28 hM, km_37_29 hM, km_37_30 hM, km_37_31 hM, km_37_32 hM, kmo_37 hM, kma_38 hM, kma_39 hM, kma_40 hM, kma_41 hM, kma_42 hM, kma_43 hM, kma_44 hM, kma_45 hM, kma_46 hM, kma_47 hM, kma_48 hM, kma_49 hM, kma_50 hM, kma_52 hM, kma_53 hM, kma_54 hM, kma_55 hM, kma_56 hM, kma_51 hM, z1, z2, ebit, nI_1]
            exact h2 _ _ _ _
          · have e := es ⟨z1, z2⟩
            rw [e] at h2
            unfold mKeep at h2
            refine H108 80 _ _ _ _ _ _ ?_
            simp only [sg_X7_meet_0, sg_X7_meet_2, sg_X7_meet_17, sg_X7_meet_62, sg_X7_meet_63, sg_X7_meet_78, sg_X7_meet_79, sg_X7_meet_96, sg_X7_meet_100, sg_X7_meet_101, sg_X7_meet_108, sg_X7_meet_181, sg_X7_meet_191, sg_X7_meet_197, cd_X7_meet, jwp, o_ic, o_lc, o_iload, o_lload, o_aload, o_istore, o_lstore, o_astore, o_iinc, o_pop, o_dup, o_dup2, o_iadd, o_isub, o_imul, o_iand, o_ior, o_ishl, o_ladd, o_lmul, o_land, o_lor, o_idiv, o_irem, o_ineg, o_i2l, o_l2i, o_i2b, o_i2s, o_lushr, o_lshr, o_lshl, o_lcmp, o_ifeq, o_ifne, o_iflt, o_ifge, o_ifgt, o_ifle, o_iceq, o_icne, o_iclt, o_icge, o_icgt, o_icle, o_goto, o_tsw, jsw, o_lsw, jlk, o_getf, o_putf, o_putz, o_iald, o_zald, o_iast, o_zast, o_aald, o_alen, o_gets, o_zld, o_zlen, o_cpy, o_call, o_callV, o_ireti, o_iretz, o_lret, o_vret, jg, js, jkp, jkill, jsp, jcs, jfw, jov, Value.category, Option.toList_some, Option.toList_none, List.nil_append, List.cons_append, List.append_nil, Nat.reduceAdd, true_and, and_true, jb0, jb01, jb1, jem, true_or, or_true, Classical.not_not, forall_const, List.length_cons, List.length_nil, Nat.reduceLeDiff, Nat.zero_le, Nat.reduceLT, and_self, not_true_eq_false, not_false_eq_true, false_imp_iff, true_imp_iff, implies_true, and_false, false_and, or_false, false_or, hM, km_37_0 hM, km_37_1 hM, km_37_2 hM, km_37_3 hM, km_37_4 hM, km_37_5 hM, km_37_6 hM, km_37_7 hM, km_37_8 hM, km_37_9 hM, km_37_10 hM, km_37_11 hM, km_37_12 hM, km_37_13 hM, km_37_14 hM, km_37_15 hM, km_37_16 hM, km_37_17 hM, km_37_18 hM, km_37_19 hM, km_37_20 hM, km_37_21 hM, km_37_22 hM, km_37_23 hM, km_37_24 hM, km_37_25 hM, km_37_26 hM, km_37_27 hM, km_37_28 hM, km_37_29 hM, km_37_30 hM, km_37_31 hM, km_37_32 hM, kmo_37 hM, kma_38 hM, kma_39 hM, kma_40 hM, kma_41 hM, kma_42 hM, kma_43 hM, kma_44 hM, kma_45 hM, kma_46 hM, kma_47 hM, kma_48 hM, kma_49 hM, kma_50 hM, kma_52 hM, kma_53 hM, kma_54 hM, kma_55 hM, kma_56 hM, kma_51 hM, z1, z2, ebit, nI_1]
            refine ⟨fun c => ?_, fun c => ?_⟩
            · rw [if_neg (Int32.not_lt.mpr c)] at h2
              exact h2 _ _ _ _
            · have c' := Int32.not_le.mp c
              rw [if_pos c'] at h2
              rw [Int32.lt_iff_toInt_lt] at c'
              have c3 : (mMt h cnt i 37 14).toInt < (60 : Int) := c'
              have hv : vp_in (mMt h cnt i 37 14) 60 := vp_in_iff.mpr ⟨by omega, c3⟩
              simp only [up2_n (show ¬ 37 = 47 by decide), up2_n (show ¬ 37 = 48 by decide), up2_n (show ¬ 37 = 49 by decide), up2_n (show ¬ 37 = 50 by decide), up2_n (show ¬ 42 = 47 by decide), up2_n (show ¬ 43 = 47 by decide), up2_n (show ¬ 43 = 48 by decide), hv, vi, nI_clamp hi31, e42 i rfl, e43 i rfl, e4, and_self, not_true_eq_false, not_false_eq_true, false_imp_iff, true_imp_iff, implies_true, and_false, false_and, or_false, false_or, true_and, and_true]
              exact h2 _ _ _ _
        · have e := en (fun z => z1 z.1)
          rw [e] at h2
          refine H108 80 _ _ _ _ _ _ ?_
          simp only [sg_X7_meet_0, sg_X7_meet_2, sg_X7_meet_17, sg_X7_meet_62, sg_X7_meet_63, sg_X7_meet_78, sg_X7_meet_79, sg_X7_meet_96, sg_X7_meet_100, sg_X7_meet_101, sg_X7_meet_108, sg_X7_meet_181, sg_X7_meet_191, sg_X7_meet_197, cd_X7_meet, jwp, o_ic, o_lc, o_iload, o_lload, o_aload, o_istore, o_lstore, o_astore, o_iinc, o_pop, o_dup, o_dup2, o_iadd, o_isub, o_imul, o_iand, o_ior, o_ishl, o_ladd, o_lmul, o_land, o_lor, o_idiv, o_irem, o_ineg, o_i2l, o_l2i, o_i2b, o_i2s, o_lushr, o_lshr, o_lshl, o_lcmp, o_ifeq, o_ifne, o_iflt, o_ifge, o_ifgt, o_ifle, o_iceq, o_icne, o_iclt, o_icge, o_icgt, o_icle, o_goto, o_tsw, jsw, o_lsw, jlk, o_getf, o_putf, o_putz, o_iald, o_zald, o_iast, o_zast, o_aald, o_alen, o_gets, o_zld, o_zlen, o_cpy, o_call, o_callV, o_ireti, o_iretz, o_lret, o_vret, jg, js, jkp, jkill, jsp, jcs, jfw, jov, Value.category, Option.toList_some, Option.toList_none, List.nil_append, List.cons_append, List.append_nil, Nat.reduceAdd, true_and, and_true, jb0, jb01, jb1, jem, true_or, or_true, Classical.not_not, forall_const, List.length_cons, List.length_nil, Nat.reduceLeDiff, Nat.zero_le, Nat.reduceLT, and_self, not_true_eq_false, not_false_eq_true, false_imp_iff, true_imp_iff, implies_true, and_false, false_and, or_false, false_or, hM, km_37_0 hM, km_37_1 hM, km_37_2 hM, km_37_3 hM, km_37_4 hM, km_37_5 hM, km_37_6 hM, km_37_7 hM, km_37_8 hM, km_37_9 hM, km_37_10 hM, km_37_11 hM, km_37_12 hM, km_37_13 hM, km_37_14 hM, km_37_15 hM, km_37_16 hM, km_37_17 hM, km_37_18 hM, km_37_19 hM, km_37_20 hM, km_37_21 hM, km_37_22 hM, km_37_23 hM, km_37_24 hM, km_37_25 hM, km_37_26 hM, km_37_27 hM, km_37_28 hM, km_37_29 hM, km_37_30 hM, km_37_31 hM, km_37_32 hM, kmo_37 hM, kma_38 hM, kma_39 hM, kma_40 hM, kma_41 hM, kma_42 hM, kma_43 hM, kma_44 hM, kma_45 hM, kma_46 hM, kma_47 hM, kma_48 hM, kma_49 hM, kma_50 hM, kma_52 hM, kma_53 hM, kma_54 hM, kma_55 hM, kma_56 hM, kma_51 hM, z1, nI_1]
          exact h2 _ _ _ _
  refine H0 60 _ _ _ _ _ _ ?_
  simp only [sg_X7_meet_0, sg_X7_meet_2, sg_X7_meet_17, sg_X7_meet_62, sg_X7_meet_63, sg_X7_meet_78, sg_X7_meet_79, sg_X7_meet_96, sg_X7_meet_100, sg_X7_meet_101, sg_X7_meet_108, sg_X7_meet_181, sg_X7_meet_191, sg_X7_meet_197, cd_X7_meet, jwp, o_ic, o_lc, o_iload, o_lload, o_aload, o_istore, o_lstore, o_astore, o_iinc, o_pop, o_dup, o_dup2, o_iadd, o_isub, o_imul, o_iand, o_ior, o_ishl, o_ladd, o_lmul, o_land, o_lor, o_idiv, o_irem, o_ineg, o_i2l, o_l2i, o_i2b, o_i2s, o_lushr, o_lshr, o_lshl, o_lcmp, o_ifeq, o_ifne, o_iflt, o_ifge, o_ifgt, o_ifle, o_iceq, o_icne, o_iclt, o_icge, o_icgt, o_icle, o_goto, o_tsw, jsw, o_lsw, jlk, o_getf, o_putf, o_putz, o_iald, o_zald, o_iast, o_zast, o_aald, o_alen, o_gets, o_zld, o_zlen, o_cpy, o_call, o_callV, o_ireti, o_iretz, o_lret, o_vret, jg, js, jkp, jkill, jsp, jcs, jfw, jov, Value.category, Option.toList_some, Option.toList_none, List.nil_append, List.cons_append, List.append_nil, Nat.reduceAdd, true_and, and_true, jb0, jb01, jb1, jem, true_or, or_true, Classical.not_not, forall_const, List.length_cons, List.length_nil, Nat.reduceLeDiff, Nat.zero_le, Nat.reduceLT, hM, km_37_0 hM, km_37_1 hM, km_37_2 hM, km_37_3 hM, km_37_4 hM, km_37_5 hM, km_37_6 hM, km_37_7 hM, km_37_8 hM, km_37_9 hM, km_37_10 hM, km_37_11 hM, km_37_12 hM, km_37_13 hM, km_37_14 hM, km_37_15 hM, km_37_16 hM, km_37_17 hM, km_37_18 hM, km_37_19 hM, km_37_20 hM, km_37_21 hM, km_37_22 hM, km_37_23 hM, km_37_24 hM, km_37_25 hM, km_37_26 hM, km_37_27 hM, km_37_28 hM, km_37_29 hM, km_37_30 hM, km_37_31 hM, km_37_32 hM, kmo_37 hM, kma_38 hM, kma_39 hM, kma_40 hM, kma_41 hM, kma_42 hM, kma_43 hM, kma_44 hM, kma_45 hM, kma_46 hM, kma_47 hM, kma_48 hM, kma_49 hM, kma_50 hM, kma_52 hM, kma_53 hM, kma_54 hM, kma_55 hM, kma_56 hM, kma_51 hM]
  exact outer cnt 0 (by omega) none none none none
theorem m_X7_meet (l : Launch) : jHolds vwCl l yX7_meet wsX7_meet 0 0 0 0 T_X7_meet := by
  refine m_X7_meet_of l (fun G Q vs K h H0 H2 H17 H63 H108 hT => ?_)
  unfold T_X7_meet at hT
  split at hT
  · obtain ⟨rfl, hT⟩ := hT
    exact ⟨Nat.le_of_ble_eq_true rfl, v_X7_meet hT H0 H2 H17 H63 H108⟩
  · exact hT.elim
