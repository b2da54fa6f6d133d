/-! ===== rules, the mark's V, sheets' colours ===== -/
theorem jdiv {c k : Nat} (h : c < 2147483648) (hk : 0 < k) (hk2 : k < 2147483648) : nI c / nI k = nI (c / k) := by
  apply Int32.toInt_inj.mp
  have h3 : c / k ≤ c := Nat.div_le_self c k
  rw [Int32.toInt_div, nI_toInt h, nI_toInt hk2, nI_toInt (by omega)]
  rw [show (c : Int).tdiv (k : Int) = ((c / k : Nat) : Int) from (Int.ofNat_tdiv c k).symm]
  generalize c / k = q at h3 ⊢
  rw [Int.bmod_eq_of_le (by omega) (by omega)]
theorem jrem {c k : Nat} (h : c < 2147483648) (hk : 0 < k) (hk2 : k < 2147483648) : nI c - nI c / nI k * nI k = nI (c % k) := by
  rw [jdiv h hk hk2]
  have h3 : c / k ≤ c := Nat.div_le_self c k
  have h4 : c / k * k ≤ c := Nat.div_mul_le_self c k
  have h5 : c % k = c - c / k * k := by have := Nat.div_add_mod c k; rw [Nat.mul_comm] at this; omega
  have h6 : (nI (c / k) * nI k).toInt = ((c / k * k : Nat) : Int) := by
    have e : (nI (c / k)).toInt * (nI k).toInt = ((c / k * k : Nat) : Int) := by
      rw [nI_toInt (by omega), nI_toInt hk2]; exact (Int.natCast_mul _ _).symm
    rw [ti_mul (by rw [e]; omega) (by rw [e]; omega), e]
  apply Int32.toInt_inj.mp
  rw [h5]
  generalize c / k * k = q at h4 h6 ⊢
  rw [ti_sub (by rw [h6, nI_toInt h]; omega) (by rw [h6, nI_toInt h]; omega), h6, nI_toInt h, nI_toInt (by omega)]
  omega

/-! X4_restart -/
/-- the letter of place k -/
def jRL (k : Nat) : Int := if k % 2 = 0 then 82 else 76
/-- the rules R, L, R, L .. of m letters: rows 0 .. r - 1 whole, of row r the first c letters -/
def jrst (h : jM) (m : Nat) (d : Int32) (r c : Nat) : jM := fun a k => if (6 ≤ a ∧ a < 6 + r ∧ k < m) ∨ (a = 6 + r ∧ k < c) then jtof (jRL k) d else h a k
theorem jrst_0 (h : jM) (m : Nat) (d : Int32) : jrst h m d 0 0 = h := by
  funext a k
  unfold jrst
  rw [if_neg (by omega)]
theorem jrst_row (h : jM) (m : Nat) (d : Int32) (r : Nat) : jrst h m d (r + 1) 0 = jrst h m d r m := by
  funext a k
  unfold jrst
  by_cases c : (6 ≤ a ∧ a < 6 + r ∧ k < m) ∨ (a = 6 + r ∧ k < m)
  · rw [if_pos c, if_pos (by omega)]
  · rw [if_neg c, if_neg (by omega)]
theorem jrst_s (h : jM) (m : Nat) (d : Int32) (r c : Nat) (hc : c < m) : up2 (jrst h m d r c) (6 + r) c (jtof (jRL c) d) = jrst h m d r (c + 1) := by
  funext a k
  by_cases ha : a = 6 + r
  · subst ha
    rw [up2_s]
    by_cases hk : k = c
    · subst hk
      rw [upd_s]
      unfold jrst
      rw [if_pos (by omega)]
    · rw [upd_n hk]
      unfold jrst
      by_cases h1 : k < c
      · rw [if_pos (by omega), if_pos (by omega)]
      · rw [if_neg (by omega), if_neg (by omega)]
  · rw [up2_n ha]
    unfold jrst
    by_cases h1 : 6 ≤ a ∧ a < 6 + r ∧ k < m
    · rw [if_pos (by omega), if_pos (by omega)]
    · rw [if_neg (by omega), if_neg (by omega)]
theorem jmod2 {c : Nat} (h : c < 2147483648) : (nI c - nI c / 2 * 2 = 0) = (c % 2 = 0) := by
  have e : nI c - nI c / 2 * 2 = nI (c % 2) := jrem h (k := 2) (by decide) (by decide)
  rw [e, show (0 : Int32) = nI 0 from rfl]
  exact propext (nI_eq (by omega) (by decide))
def T_X4_restart : jT := fun vs K h Q => match vs with
  | [.ref r0, .int n, .int d] => r0 = 4 ∧ (jX K ∧ (0 ≤ n.toInt ∧ n.toInt ≤ 12) ∧ Q none K (jrst h n.toInt.toNat d 4 0))
  | _ => False
def sg_X4_restart_0 : jS := [(o_ic (0), 1), (o_istore 3, 1)]
def sg_X4_restart_2 : jS := [(o_iload 3, 1), (o_ic (4), 1), (o_icge 55, 3), (o_ic (0), 1), (o_istore 4, 2)]
def sg_X4_restart_10 : jS := [(o_iload 4, 2), (o_iload 1, 1), (o_icge 49, 3), (o_aload 0, 1), (o_getf 4 0, 3), (o_iload 3, 1), (o_aald 4, 1), (o_iload 4, 2), (o_iload 4, 2), (o_ic (2), 1), (o_irem, 1), (o_ifne 36, 3), (o_ic (82), 2), (o_goto 38, 3)]
def sg_X4_restart_36 : jS := [(o_ic (76), 2), (o_iload 2, 1), (o_call 2 T_X4_turnOf, 3), (o_iast, 1), (o_iinc 4 (1), 3), (o_goto 10, 3)]
def sg_X4_restart_38 : jS := [(o_iload 2, 1), (o_call 2 T_X4_turnOf, 3), (o_iast, 1), (o_iinc 4 (1), 3), (o_goto 10, 3)]
def sg_X4_restart_49 : jS := [(o_iinc 3 (1), 3), (o_goto 2, 3)]
def sg_X4_restart_55 : jS := [(o_vret, 1)]
def cd_X4_restart : Nat → jS := fun t => match t with
  | 36 => sg_X4_restart_36
  | 38 => sg_X4_restart_38
  | 49 => sg_X4_restart_49
  | 55 => sg_X4_restart_55
  | _ => []
theorem wl_X4_restart_11 : Cond.fieldLink RX4 11 (TX4 0).1 (TX4 0).2.1 (TX4 0).2.2.1 ∈ wsX4_restart := by decide +kernel
theorem wi_X4_restart_X4 : ∀ w ∈ u_ws RX4 TX4 3, w ∈ wsX4_restart := by decide +kernel
def E_X4_restart (Γ : jΓ) (Q : jPost) : Prop := Γ.2.2.2.2.2.2.2.2.2.2.1 = 5 ∧ Γ.2.2.2.2.2.2.2.2.2.2.2.1 = vwCl ∧ jC Γ cX4_restart RX4 "restart" none wsX4_restart 1 22 0 0 ∧ jR Γ Q 0 0
theorem oo_X4_restart_0 {Γ : jΓ} {Q : jPost} (E : E_X4_restart Γ Q) : jSA Γ Q 0 (o_ic (0)) 1 := so_iconst E.2.2.1 rfl dX4_restart_0
theorem oo_X4_restart_1 {Γ : jΓ} {Q : jPost} (E : E_X4_restart Γ Q) : jSA Γ Q 1 (o_istore 3) 1 := so_istore_n E.2.2.1 rfl (by rw [E.1]; decide) dX4_restart_1
theorem oo_X4_restart_2 {Γ : jΓ} {Q : jPost} (E : E_X4_restart Γ Q) : jSA Γ Q 2 (o_iload 3) 1 := so_iload_n E.2.2.1 rfl dX4_restart_2
theorem oo_X4_restart_3 {Γ : jΓ} {Q : jPost} (E : E_X4_restart Γ Q) : jSA Γ Q 3 (o_ic (4)) 1 := so_iconst E.2.2.1 rfl dX4_restart_3
theorem oo_X4_restart_4 {Γ : jΓ} {Q : jPost} (E : E_X4_restart Γ Q) : jSA Γ Q 4 (o_icge 55) 3 := so_icge E.2.2.1 (by decide) dX4_restart_4
theorem oo_X4_restart_7 {Γ : jΓ} {Q : jPost} (E : E_X4_restart Γ Q) : jSA Γ Q 7 (o_ic (0)) 1 := so_iconst E.2.2.1 rfl dX4_restart_7
theorem oo_X4_restart_8 {Γ : jΓ} {Q : jPost} (E : E_X4_restart Γ Q) : jSA Γ Q 8 (o_istore 4) 2 := so_istore E.2.2.1 (by rw [E.1]; decide) dX4_restart_8
theorem oo_X4_restart_10 {Γ : jΓ} {Q : jPost} (E : E_X4_restart Γ Q) : jSA Γ Q 10 (o_iload 4) 2 := so_iload E.2.2.1 dX4_restart_10
theorem oo_X4_restart_12 {Γ : jΓ} {Q : jPost} (E : E_X4_restart Γ Q) : jSA Γ Q 12 (o_iload 1) 1 := so_iload_n E.2.2.1 rfl dX4_restart_12
theorem oo_X4_restart_13 {Γ : jΓ} {Q : jPost} (E : E_X4_restart Γ Q) : jSA Γ Q 13 (o_icge 49) 3 := so_icge E.2.2.1 (by decide) dX4_restart_13
theorem oo_X4_restart_16 {Γ : jΓ} {Q : jPost} (E : E_X4_restart Γ Q) : jSA Γ Q 16 (o_aload 0) 1 := so_aload_n E.2.2.1 rfl dX4_restart_16
theorem oo_X4_restart_17 {Γ : jΓ} {Q : jPost} (E : E_X4_restart Γ Q) : jSA Γ Q 17 (o_getf 4 0) 3 := so_getf (ci := 4) E.2.2.1 wi_X4_restart_X4 (by rw [E.2.1]; rfl) 0 (by decide) wl_X4_restart_11 dX4_restart_17
theorem oo_X4_restart_20 {Γ : jΓ} {Q : jPost} (E : E_X4_restart Γ Q) : jSA Γ Q 20 (o_iload 3) 1 := so_iload_n E.2.2.1 rfl dX4_restart_20
theorem oo_X4_restart_21 {Γ : jΓ} {Q : jPost} (E : E_X4_restart Γ Q) : jSA Γ Q 21 (o_aald 4) 1 := so_aald4 E.2.2.1 dX4_restart_21
theorem oo_X4_restart_22 {Γ : jΓ} {Q : jPost} (E : E_X4_restart Γ Q) : jSA Γ Q 22 (o_iload 4) 2 := so_iload E.2.2.1 dX4_restart_22
theorem oo_X4_restart_24 {Γ : jΓ} {Q : jPost} (E : E_X4_restart Γ Q) : jSA Γ Q 24 (o_iload 4) 2 := so_iload E.2.2.1 dX4_restart_24
theorem oo_X4_restart_26 {Γ : jΓ} {Q : jPost} (E : E_X4_restart Γ Q) : jSA Γ Q 26 (o_ic (2)) 1 := so_iconst E.2.2.1 rfl dX4_restart_26
theorem oo_X4_restart_27 {Γ : jΓ} {Q : jPost} (E : E_X4_restart Γ Q) : jSA Γ Q 27 (o_irem) 1 := so_irem E.2.2.1 dX4_restart_27
theorem oo_X4_restart_28 {Γ : jΓ} {Q : jPost} (E : E_X4_restart Γ Q) : jSA Γ Q 28 (o_ifne 36) 3 := so_ifne E.2.2.1 (by decide) dX4_restart_28
theorem oo_X4_restart_31 {Γ : jΓ} {Q : jPost} (E : E_X4_restart Γ Q) : jSA Γ Q 31 (o_ic (82)) 2 := so_bipush E.2.2.1 rfl dX4_restart_31
theorem oo_X4_restart_33 {Γ : jΓ} {Q : jPost} (E : E_X4_restart Γ Q) : jSA Γ Q 33 (o_goto 38) 3 := so_goto E.2.2.1 (by decide) dX4_restart_33
theorem oo_X4_restart_36 {Γ : jΓ} {Q : jPost} (E : E_X4_restart Γ Q) : jSA Γ Q 36 (o_ic (76)) 2 := so_bipush E.2.2.1 rfl dX4_restart_36
theorem oo_X4_restart_38 {Γ : jΓ} {Q : jPost} (E : E_X4_restart Γ Q) : jSA Γ Q 38 (o_iload 2) 1 := so_iload_n E.2.2.1 rfl dX4_restart_38
theorem oo_X4_restart_39 {Γ : jΓ} {Q : jPost} (E : E_X4_restart Γ Q) : jSA Γ Q 39 (o_call 2 T_X4_turnOf) 3 := so_callS E.2.2.1 gX4_restart_X4_turnOf (by decide +kernel) rfl (by rw [E.2.1]; exact m_X4_turnOf _) (by decide) (by decide) dX4_restart_39
theorem oo_X4_restart_42 {Γ : jΓ} {Q : jPost} (E : E_X4_restart Γ Q) : jSA Γ Q 42 (o_iast) 1 := so_iast E.2.2.1 dX4_restart_42
theorem oo_X4_restart_43 {Γ : jΓ} {Q : jPost} (E : E_X4_restart Γ Q) : jSA Γ Q 43 (o_iinc 4 (1)) 3 := so_iinc E.2.2.1 rfl (by rw [E.1]; decide) dX4_restart_43
theorem oo_X4_restart_46 {Γ : jΓ} {Q : jPost} (E : E_X4_restart Γ Q) : jSA Γ Q 46 (o_goto 10) 3 := so_goto E.2.2.1 (by decide) dX4_restart_46
theorem oo_X4_restart_49 {Γ : jΓ} {Q : jPost} (E : E_X4_restart Γ Q) : jSA Γ Q 49 (o_iinc 3 (1)) 3 := so_iinc E.2.2.1 rfl (by rw [E.1]; decide) dX4_restart_49
theorem oo_X4_restart_52 {Γ : jΓ} {Q : jPost} (E : E_X4_restart Γ Q) : jSA Γ Q 52 (o_goto 2) 3 := so_goto E.2.2.1 (by decide) dX4_restart_52
theorem oo_X4_restart_55 {Γ : jΓ} {Q : jPost} (E : E_X4_restart Γ Q) : jSA Γ Q 55 (o_vret) 1 := so_vret E.2.2.1 E.2.2.2 dX4_restart_55
theorem ok_X4_restart_0 {Γ : jΓ} {Q : jPost} (E : E_X4_restart Γ Q) : jSS Γ Q 0 sg_X4_restart_0 := ⟨oo_X4_restart_0 E, oo_X4_restart_1 E, trivial⟩
theorem ok_X4_restart_2 {Γ : jΓ} {Q : jPost} (E : E_X4_restart Γ Q) : jSS Γ Q 2 sg_X4_restart_2 := ⟨oo_X4_restart_2 E, oo_X4_restart_3 E, oo_X4_restart_4 E, oo_X4_restart_7 E, oo_X4_restart_8 E, trivial⟩
theorem ok_X4_restart_10 {Γ : jΓ} {Q : jPost} (E : E_X4_restart Γ Q) : jSS Γ Q 10 sg_X4_restart_10 := ⟨oo_X4_restart_10 E, oo_X4_restart_12 E, oo_X4_restart_13 E, oo_X4_restart_16 E, oo_X4_restart_17 E, oo_X4_restart_20 E, oo_X4_restart_21 E, oo_X4_restart_22 E, oo_X4_restart_24 E, oo_X4_restart_26 E, oo_X4_restart_27 E, oo_X4_restart_28 E, oo_X4_restart_31 E, oo_X4_restart_33 E, trivial⟩
theorem ok_X4_restart_36 {Γ : jΓ} {Q : jPost} (E : E_X4_restart Γ Q) : jSS Γ Q 36 sg_X4_restart_36 := ⟨oo_X4_restart_36 E, oo_X4_restart_38 E, oo_X4_restart_39 E, oo_X4_restart_42 E, oo_X4_restart_43 E, oo_X4_restart_46 E, trivial⟩
theorem ok_X4_restart_38 {Γ : jΓ} {Q : jPost} (E : E_X4_restart Γ Q) : jSS Γ Q 38 sg_X4_restart_38 := ⟨oo_X4_restart_38 E, oo_X4_restart_39 E, oo_X4_restart_42 E, oo_X4_restart_43 E, oo_X4_restart_46 E, trivial⟩
theorem ok_X4_restart_49 {Γ : jΓ} {Q : jPost} (E : E_X4_restart Γ Q) : jSS Γ Q 49 sg_X4_restart_49 := ⟨oo_X4_restart_49 E, oo_X4_restart_52 E, trivial⟩
theorem ok_X4_restart_55 {Γ : jΓ} {Q : jPost} (E : E_X4_restart Γ Q) : jSS Γ Q 55 sg_X4_restart_55 := ⟨oo_X4_restart_55 E, trivial⟩
theorem okc_X4_restart {Γ : jΓ} {Q : jPost} (E : E_X4_restart Γ Q) (t : Nat) : jSS Γ Q t (cd_X4_restart t) := by
  unfold cd_X4_restart
  split
  · exact ok_X4_restart_36 E
  · exact ok_X4_restart_38 E
  · exact ok_X4_restart_49 E
  · exact ok_X4_restart_55 E
  · trivial
theorem m_X4_restart_of (l : Launch) (hv : ∀ (G : jGt) (Q : jPost) (vs : List Value) (K : List jK) (h : jM), jHd cd_X4_restart G Q sg_X4_restart_0 0 → jHd cd_X4_restart G Q sg_X4_restart_2 2 → jHd cd_X4_restart G Q sg_X4_restart_10 10 → T_X4_restart vs K h Q → (lg_sl vs).length ≤ 5 ∧ G 0 (jinit vs 5) [] K h 0 0) : jHolds vwCl l yX4_restart wsX4_restart 1 22 0 0 T_X4_restart := by
  refine jMet (cc := cX4_restart) (maxL := 5) (rt := none) (by decide +kernel) rfl (fun Γ Q vs K h hl hn hcl C hR hT => hv (jG Γ) Q vs K h ?_ ?_ ?_ hT)
  · exact fun n L st K h ce sl => jwp_ok (okc_X4_restart ⟨hn, hcl, C, hR⟩) n sg_X4_restart_0 0 (ok_X4_restart_0 ⟨hn, hcl, C, hR⟩) L st K h ce sl
  · exact fun n L st K h ce sl => jwp_ok (okc_X4_restart ⟨hn, hcl, C, hR⟩) n sg_X4_restart_2 2 (ok_X4_restart_2 ⟨hn, hcl, C, hR⟩) L st K h ce sl
  · exact fun n L st K h ce sl => jwp_ok (okc_X4_restart ⟨hn, hcl, C, hR⟩) n sg_X4_restart_10 10 (ok_X4_restart_10 ⟨hn, hcl, C, hR⟩) L st K h ce sl
set_option maxHeartbeats 4000000 in
set_option maxRecDepth 100000 in
theorem v_X4_restart {G : jGt} {Q : jPost} {K : List jK} {h : jM} {n : Int32} {d : Int32} (hT : jX K ∧ (0 ≤ n.toInt ∧ n.toInt ≤ 12) ∧ Q none K (jrst h n.toInt.toNat d 4 0)) (H0 : jHd cd_X4_restart G Q sg_X4_restart_0 0) (H2 : jHd cd_X4_restart G Q sg_X4_restart_2 2) (H10 : jHd cd_X4_restart G Q sg_X4_restart_10 10) : G 0 [some (.ref 4), some (.int n), some (.int d), none, none] [] K h 0 0 := by
  obtain ⟨hX, ⟨hn0, hn1⟩, hT⟩ := hT
  obtain ⟨m, hm, rfl⟩ : ∃ m, m ≤ 12 ∧ n = nI m := by
    obtain ⟨j, hj, hj2⟩ := nI_of (x := n) (by rw [Int32.lt_iff_toInt_lt]; exact fun q => absurd q (by show ¬ n.toInt < 0; omega))
    refine ⟨j, ?_, hj2⟩
    rw [hj2, nI_toInt hj] at hn1
    omega
  rw [nI_toInt (by omega)] at hT
  have inner : ∀ r, r < 4 → (∀ L : jL, L = [some (.ref 4), some (.int (nI m)), some (.int d), some (.int (nI r)), some (.int (nI m))] → G 10 L [] K (jrst h m d r m) 0 0) → ∀ k c, c + k = m → G 10 [some (.ref 4), some (.int (nI m)), some (.int d), some (.int (nI r)), some (.int (nI c))] [] K (jrst h m d r c) 0 0 := by
    intro r hr hend k
    induction k with
    | zero =>
      intro c hc
      have : c = m := by omega
      subst this
      exact hend _ rfl
    | succ k ih =>
      intro c hc
      refine H10 40 _ _ _ _ _ _ ?_
      simp only [sg_X4_restart_0, sg_X4_restart_2, sg_X4_restart_10, sg_X4_restart_36, sg_X4_restart_38, sg_X4_restart_49, sg_X4_restart_55, cd_X4_restart, jwp, o_ic, o_lc, o_iload, o_lload, o_aload, o_istore, o_lstore, o_astore, o_iinc, o_pop, o_dup, o_dup2, o_iadd, o_isub, o_imul, o_iand, o_ior, o_ishl, o_ladd, o_lmul, o_land, o_lor, o_idiv, o_irem, o_ineg, o_i2l, o_l2i, o_i2b, o_i2s, o_lushr, o_lshr, o_lshl, o_lcmp, o_ifeq, o_ifne, o_iflt, o_ifge, o_ifgt, o_ifle, o_iceq, o_icne, o_iclt, o_icge, o_icgt, o_icle, o_goto, o_tsw, jsw, o_lsw, jlk, o_getf, o_putf, o_putz, o_iald, o_zald, o_iast, o_zast, o_aald, o_alen, o_gets, o_zld, o_zlen, o_cpy, o_call, o_callV, o_ireti, o_iretz, o_lret, o_vret, jg, js, jkp, jkill, jsp, jcs, jfw, jov, Value.category, Option.toList_some, Option.toList_none, List.nil_append, List.cons_append, List.append_nil, Nat.reduceAdd, true_and, and_true, jb0, jb01, jb1, jem, true_or, or_true, Classical.not_not, forall_const, List.length_cons, List.length_nil, Nat.reduceLeDiff, Nat.zero_le, Nat.reduceLT, hX, kx_0_0 hX, kx_0_1 hX, kx_0_2 hX, kx_0_3 hX, kx_0_4 hX, kx_0_5 hX, kx_0_6 hX, kx_0_7 hX, kx_0_8 hX, kxo_0 hX, kx_1_0 hX, kx_1_1 hX, kx_1_2 hX, kx_1_3 hX, kxo_1 hX, kx_4_0 hX, kx_4_1 hX, kx_4_2 hX, kxo_4 hX, kx_19_0 hX, kx_19_1 hX, kx_19_2 hX, kx_19_3 hX, kx_19_4 hX, kxo_19 hX, kx_24_0 hX, kx_24_1 hX, kx_24_2 hX, kx_24_3 hX, kx_24_4 hX, kx_24_5 hX, kx_24_6 hX, kxo_24 hX, kxa_2 hX, kxa_3 hX, kxa_6 hX, kxa_7 hX, kxa_8 hX, kxa_9 hX, kxa_10 hX, kxa_18 hX, kxa_20 hX, kxa_21 hX, kxa_22 hX, kxa_23 hX, kxa_26 hX, kxa_27 hX, kxr_5 hX, kxr_11 hX, kxr_28 hX, T_X4_turnOf]
      have h2 := ih (c + 1) (by omega)
      have hrow : jln K (6 + r) 0 = some 12 := kx_rowl hX hr
      have hst : up2 (jrst h m d r c) (6 + r) c (jtof (jRL c) d) = jrst h m d r (c + 1) := jrst_s h m d r c (by omega)
      rw [nI_clamp (by omega : r < 2147483648)]
      simp only [kx_rows hr, hrow]
      rw [nI_clamp (by omega : c < 2147483648)]
      refine ⟨fun q => absurd ((nI_leI (by omega) (by omega)).mp q) (by omega), fun _ => ⟨vp_in_nI (by simpa using hr) (by decide), by decide, fun q => ?_, fun q => ?_⟩⟩
      · rw [jmod2 (by omega)] at q
        have e : ¬ c % 2 = 0 := q
        rw [show jRL c = 76 from if_neg e] at hst
        refine ⟨by decide, vp_in_nI (by omega) (by decide), ?_⟩
        rw [nI_1]
        rw [show (76 : Int32).toInt = 76 from rfl, hst]
        exact h2
      · rw [jmod2 (by omega)] at q
        have e : c % 2 = 0 := q
        rw [show jRL c = 82 from if_pos e] at hst
        refine ⟨by decide, vp_in_nI (by omega) (by decide), ?_⟩
        rw [nI_1]
        rw [show (82 : Int32).toInt = 82 from rfl, hst]
        exact h2
  have outer : ∀ k r, r + k = 4 → ∀ x4, G 2 [some (.ref 4), some (.int (nI m)), some (.int d), some (.int (nI r)), x4] [] K (jrst h m d r 0) 0 0 := by
    intro k
    induction k with
    | zero =>
      intro r hr x4
      have : r = 4 := by omega
      subst this
      refine H2 40 _ _ _ _ _ _ ?_
      simp only [sg_X4_restart_0, sg_X4_restart_2, sg_X4_restart_10, sg_X4_restart_36, sg_X4_restart_38, sg_X4_restart_49, sg_X4_restart_55, cd_X4_restart, jwp, o_ic, o_lc, o_iload, o_lload, o_aload, o_istore, o_lstore, o_astore, o_iinc, o_pop, o_dup, o_dup2, o_iadd, o_isub, o_imul, o_iand, o_ior, o_ishl, o_ladd, o_lmul, o_land, o_lor, o_idiv, o_irem, o_ineg, o_i2l, o_l2i, o_i2b, o_i2s, o_lushr, o_lshr, o_lshl, o_lcmp, o_ifeq, o_ifne, o_iflt, o_ifge, o_ifgt, o_ifle, o_iceq, o_icne, o_iclt, o_icge, o_icgt, o_icle, o_goto, o_tsw, jsw, o_lsw, jlk, o_getf, o_putf, o_putz, o_iald, o_zald, o_iast, o_zast, o_aald, o_alen, o_gets, o_zld, o_zlen, o_cpy, o_call, o_callV, o_ireti, o_iretz, o_lret, o_vret, jg, js, jkp, jkill, jsp, jcs, jfw, jov, Value.category, Option.toList_some, Option.toList_none, List.nil_append, List.cons_append, List.append_nil, Nat.reduceAdd, true_and, and_true, jb0, jb01, jb1, jem, true_or, or_true, Classical.not_not, forall_const, List.length_cons, List.length_nil, Nat.reduceLeDiff, Nat.zero_le, Nat.reduceLT, hX, kx_0_0 hX, kx_0_1 hX, kx_0_2 hX, kx_0_3 hX, kx_0_4 hX, kx_0_5 hX, kx_0_6 hX, kx_0_7 hX, kx_0_8 hX, kxo_0 hX, kx_1_0 hX, kx_1_1 hX, kx_1_2 hX, kx_1_3 hX, kxo_1 hX, kx_4_0 hX, kx_4_1 hX, kx_4_2 hX, kxo_4 hX, kx_19_0 hX, kx_19_1 hX, kx_19_2 hX, kx_19_3 hX, kx_19_4 hX, kxo_19 hX, kx_24_0 hX, kx_24_1 hX, kx_24_2 hX, kx_24_3 hX, kx_24_4 hX, kx_24_5 hX, kx_24_6 hX, kxo_24 hX, kxa_2 hX, kxa_3 hX, kxa_6 hX, kxa_7 hX, kxa_8 hX, kxa_9 hX, kxa_10 hX, kxa_18 hX, kxa_20 hX, kxa_21 hX, kxa_22 hX, kxa_23 hX, kxa_26 hX, kxa_27 hX, kxr_5 hX, kxr_11 hX, kxr_28 hX]
      rw [e4]
      exact ⟨fun _ => hT, fun q => absurd (Int32.le_refl _) q⟩
    | succ k ih =>
      intro r hr x4
      refine H2 40 _ _ _ _ _ _ ?_
      simp only [sg_X4_restart_0, sg_X4_restart_2, sg_X4_restart_10, sg_X4_restart_36, sg_X4_restart_38, sg_X4_restart_49, sg_X4_restart_55, cd_X4_restart, jwp, o_ic, o_lc, o_iload, o_lload, o_aload, o_istore, o_lstore, o_astore, o_iinc, o_pop, o_dup, o_dup2, o_iadd, o_isub, o_imul, o_iand, o_ior, o_ishl, o_ladd, o_lmul, o_land, o_lor, o_idiv, o_irem, o_ineg, o_i2l, o_l2i, o_i2b, o_i2s, o_lushr, o_lshr, o_lshl, o_lcmp, o_ifeq, o_ifne, o_iflt, o_ifge, o_ifgt, o_ifle, o_iceq, o_icne, o_iclt, o_icge, o_icgt, o_icle, o_goto, o_tsw, jsw, o_lsw, jlk, o_getf, o_putf, o_putz, o_iald, o_zald, o_iast, o_zast, o_aald, o_alen, o_gets, o_zld, o_zlen, o_cpy, o_call, o_callV, o_ireti, o_iretz, o_lret, o_vret, jg, js, jkp, jkill, jsp, jcs, jfw, jov, Value.category, Option.toList_some, Option.toList_none, List.nil_append, List.cons_append, List.append_nil, Nat.reduceAdd, true_and, and_true, jb0, jb01, jb1, jem, true_or, or_true, Classical.not_not, forall_const, List.length_cons, List.length_nil, Nat.reduceLeDiff, Nat.zero_le, Nat.reduceLT, hX, kx_0_0 hX, kx_0_1 hX, kx_0_2 hX, kx_0_3 hX, kx_0_4 hX, kx_0_5 hX, kx_0_6 hX, kx_0_7 hX, kx_0_8 hX, kxo_0 hX, kx_1_0 hX, kx_1_1 hX, kx_1_2 hX, kx_1_3 hX, kxo_1 hX, kx_4_0 hX, kx_4_1 hX, kx_4_2 hX, kxo_4 hX, kx_19_0 hX, kx_19_1 hX, kx_19_2 hX, kx_19_3 hX, kx_19_4 hX, kxo_19 hX, kx_24_0 hX, kx_24_1 hX, kx_24_2 hX, kx_24_3 hX, kx_24_4 hX, kx_24_5 hX, kx_24_6 hX, kxo_24 hX, kxa_2 hX, kxa_3 hX, kxa_6 hX, kxa_7 hX, kxa_8 hX, kxa_9 hX, kxa_10 hX, kxa_18 hX, kxa_20 hX, kxa_21 hX, kxa_22 hX, kxa_23 hX, kxa_26 hX, kxa_27 hX, kxr_5 hX, kxr_11 hX, kxr_28 hX]
      rw [e4]
      refine ⟨fun q => absurd ((nI_leI (by omega) (by omega)).mp q) (by omega), fun _ => ?_⟩
      refine inner r (by omega) (fun L hL => ?_) m 0 (by omega)
      subst hL
      refine H10 40 _ _ _ _ _ _ ?_
      simp only [sg_X4_restart_0, sg_X4_restart_2, sg_X4_restart_10, sg_X4_restart_36, sg_X4_restart_38, sg_X4_restart_49, sg_X4_restart_55, cd_X4_restart, jwp, o_ic, o_lc, o_iload, o_lload, o_aload, o_istore, o_lstore, o_astore, o_iinc, o_pop, o_dup, o_dup2, o_iadd, o_isub, o_imul, o_iand, o_ior, o_ishl, o_ladd, o_lmul, o_land, o_lor, o_idiv, o_irem, o_ineg, o_i2l, o_l2i, o_i2b, o_i2s, o_lushr, o_lshr, o_lshl, o_lcmp, o_ifeq, o_ifne, o_iflt, o_ifge, o_ifgt, o_ifle, o_iceq, o_icne, o_iclt, o_icge, o_icgt, o_icle, o_goto, o_tsw, jsw, o_lsw, jlk, o_getf, o_putf, o_putz, o_iald, o_zald, o_iast, o_zast, o_aald, o_alen, o_gets, o_zld, o_zlen, o_cpy, o_call, o_callV, o_ireti, o_iretz, o_lret, o_vret, jg, js, jkp, jkill, jsp, jcs, jfw, jov, Value.category, Option.toList_some, Option.toList_none, List.nil_append, List.cons_append, List.append_nil, Nat.reduceAdd, true_and, and_true, jb0, jb01, jb1, jem, true_or, or_true, Classical.not_not, forall_const, List.length_cons, List.length_nil, Nat.reduceLeDiff, Nat.zero_le, Nat.reduceLT, hX, kx_0_0 hX, kx_0_1 hX, kx_0_2 hX, kx_0_3 hX, kx_0_4 hX, kx_0_5 hX, kx_0_6 hX, kx_0_7 hX, kx_0_8 hX, kxo_0 hX, kx_1_0 hX, kx_1_1 hX, kx_1_2 hX, kx_1_3 hX, kxo_1 hX, kx_4_0 hX, kx_4_1 hX, kx_4_2 hX, kxo_4 hX, kx_19_0 hX, kx_19_1 hX, kx_19_2 hX, kx_19_3 hX, kx_19_4 hX, kxo_19 hX, kx_24_0 hX, kx_24_1 hX, kx_24_2 hX, kx_24_3 hX, kx_24_4 hX, kx_24_5 hX, kx_24_6 hX, kxo_24 hX, kxa_2 hX, kxa_3 hX, kxa_6 hX, kxa_7 hX, kxa_8 hX, kxa_9 hX, kxa_10 hX, kxa_18 hX, kxa_20 hX, kxa_21 hX, kxa_22 hX, kxa_23 hX, kxa_26 hX, kxa_27 hX, kxr_5 hX, kxr_11 hX, kxr_28 hX, T_X4_turnOf]
      refine ⟨fun _ => ?_, fun q => absurd (Int32.le_refl _) q⟩
      have h2 := ih (r + 1) (by omega) (some (.int (nI m)))
      rw [nI_1]
      rw [jrst_row] at h2
      exact h2
  refine H0 40 _ _ _ _ _ _ ?_
  simp only [sg_X4_restart_0, sg_X4_restart_2, sg_X4_restart_10, sg_X4_restart_36, sg_X4_restart_38, sg_X4_restart_49, sg_X4_restart_55, cd_X4_restart, jwp, o_ic, o_lc, o_iload, o_lload, o_aload, o_istore, o_lstore, o_astore, o_iinc, o_pop, o_dup, o_dup2, o_iadd, o_isub, o_imul, o_iand, o_ior, o_ishl, o_ladd, o_lmul, o_land, o_lor, o_idiv, o_irem, o_ineg, o_i2l, o_l2i, o_i2b, o_i2s, o_lushr, o_lshr, o_lshl, o_lcmp, o_ifeq, o_ifne, o_iflt, o_ifge, o_ifgt, o_ifle, o_iceq, o_icne, o_iclt, o_icge, o_icgt, o_icle, o_goto, o_tsw, jsw, o_lsw, jlk, o_getf, o_putf, o_putz, o_iald, o_zald, o_iast, o_zast, o_aald, o_alen, o_gets, o_zld, o_zlen, o_cpy, o_call, o_callV, o_ireti, o_iretz, o_lret, o_vret, jg, js, jkp, jkill, jsp, jcs, jfw, jov, Value.category, Option.toList_some, Option.toList_none, List.nil_append, List.cons_append, List.append_nil, Nat.reduceAdd, true_and, and_true, jb0, jb01, jb1, jem, true_or, or_true, Classical.not_not, forall_const, List.length_cons, List.length_nil, Nat.reduceLeDiff, Nat.zero_le, Nat.reduceLT, hX, kx_0_0 hX, kx_0_1 hX, kx_0_2 hX, kx_0_3 hX, kx_0_4 hX, kx_0_5 hX, kx_0_6 hX, kx_0_7 hX, kx_0_8 hX, kxo_0 hX, kx_1_0 hX, kx_1_1 hX, kx_1_2 hX, kx_1_3 hX, kxo_1 hX, kx_4_0 hX, kx_4_1 hX, kx_4_2 hX, kxo_4 hX, kx_19_0 hX, kx_19_1 hX, kx_19_2 hX, kx_19_3 hX, kx_19_4 hX, kxo_19 hX, kx_24_0 hX, kx_24_1 hX, kx_24_2 hX, kx_24_3 hX, kx_24_4 hX, kx_24_5 hX, kx_24_6 hX, kxo_24 hX, kxa_2 hX, kxa_3 hX, kxa_6 hX, kxa_7 hX, kxa_8 hX, kxa_9 hX, kxa_10 hX, kxa_18 hX, kxa_20 hX, kxa_21 hX, kxa_22 hX, kxa_23 hX, kxa_26 hX, kxa_27 hX, kxr_5 hX, kxr_11 hX, kxr_28 hX]
  have h2 := outer 4 0 (by omega) none
  rw [jrst_0] at h2
  exact h2
theorem m_X4_restart (l : Launch) : jHolds vwCl l yX4_restart wsX4_restart 1 22 0 0 T_X4_restart := by
  refine m_X4_restart_of l (fun G Q vs K h H0 H2 H10 hT => ?_)
  unfold T_X4_restart at hT
  split at hT
  · obtain ⟨rfl, hT⟩ := hT
    exact ⟨Nat.le_of_ble_eq_true rfl, v_X4_restart hT H0 H2 H10⟩
  · exact hT.elim

/-! X4_takeBytes -/
theorem jnat {x : Int32} {N : Nat} (h0 : 0 ≤ x.toInt) (h1 : x.toInt ≤ N) : ∃ j, j ≤ N ∧ x = nI j := by
  obtain ⟨j, hj, hj2⟩ := nI_of (x := x) (by rw [Int32.lt_iff_toInt_lt]; exact fun q => absurd q (by show ¬ x.toInt < 0; omega))
  refine ⟨j, ?_, hj2⟩
  rw [hj2, nI_toInt hj] at h1
  omega
/-- byte k of w, as the class takes it -/
def jbyC (w : Int64) (k : Nat) : Int32 := (w.toUInt64 >>> ((8 * nI k).toInt64.toUInt64 &&& Int64.toUInt64 63)).toInt64.toInt32 &&& 255
/-- of m bytes all but the k lowest are on the tape, from place t on -/
def jtb (h : jM) (w : Int64) (m t k : Nat) : jM := fun a i => if a = 10 ∧ t ≤ i ∧ i < t + (m - k) then jbyC w (m - 1 - (i - t)) else if a = 4 ∧ i = 2 then nI (t + (m - k)) else h a i
theorem jtb_2 (h : jM) (w : Int64) (m t k : Nat) : jtb h w m t k 4 2 = nI (t + (m - k)) := by
  unfold jtb
  rw [if_neg (by omega), if_pos (by omega)]
theorem jtb_0 (h : jM) (w : Int64) (m t : Nat) (ht : h 4 2 = nI t) : jtb h w m t m = h := by
  funext a i
  unfold jtb
  rw [if_neg (by omega)]
  by_cases c : a = 4 ∧ i = 2
  · rw [if_pos c, c.1, c.2, ht, Nat.sub_self, Nat.add_zero]
  · rw [if_neg c]
theorem jtb_s (h : jM) (w : Int64) (m t k : Nat) (hk : k + 1 ≤ m) : up2 (up2 (jtb h w m t (k + 1)) 10 (t + (m - (k + 1))) (jbyC w k)) 4 2 (nI (t + (m - (k + 1)) + 1)) = jtb h w m t k := by
  funext a i
  by_cases h4 : a = 4
  · subst h4
    rw [up2_s, up2_n (by decide : ¬ 4 = 10)]
    by_cases hi : i = 2
    · subst hi
      rw [upd_s, jtb_2]
      congr 1
      omega
    · rw [upd_n hi]
      unfold jtb
      rw [if_neg (by omega), if_neg (by omega), if_neg (by omega), if_neg (by omega)]
  · rw [up2_n h4]
    by_cases h10 : a = 10
    · subst h10
      rw [up2_s]
      by_cases hi : i = t + (m - (k + 1))
      · subst hi
        rw [upd_s]
        unfold jtb
        rw [if_pos (by omega)]
        congr 1
        omega
      · rw [upd_n hi]
        unfold jtb
        by_cases hc : t ≤ i ∧ i < t + (m - (k + 1))
        · rw [if_pos (by omega), if_pos (by omega)]
        · rw [if_neg (by omega), if_neg (by omega), if_neg (by omega), if_neg (by omega)]
    · rw [up2_n h10]
      unfold jtb
      rw [if_neg (by omega), if_neg (by omega), if_neg (by omega), if_neg (by omega)]
def T_X4_takeBytes : jT := fun vs K h Q => match vs with
  | [.ref r0, .long w, .int n] => r0 = 4 ∧ (jX K ∧ (1 ≤ n.toInt ∧ n.toInt ≤ 8) ∧ (0 ≤ (h 4 2).toInt ∧ (h 4 2).toInt + n.toInt ≤ 12) ∧ Q (some (.int (h 4 2 + n))) K (jtb h w n.toInt.toNat (h 4 2).toInt.toNat 0))
  | _ => False
def sg_X4_takeBytes_0 : jS := [(o_iload 3, 1), (o_ic (1), 1), (o_isub, 1), (o_istore 4, 2)]
def sg_X4_takeBytes_5 : jS := [(o_iload 4, 2), (o_iflt 47, 3), (o_aload 0, 1), (o_getf 4 1, 3), (o_aload 0, 1), (o_getf 4 2, 3), (o_lload 1, 1), (o_ic (8), 2), (o_iload 4, 2), (o_imul, 1), (o_lushr, 1), (o_l2i, 1), (o_ic (255), 3), (o_iand, 1), (o_iast, 1), (o_aload 0, 1), (o_dup, 1), (o_getf 4 2, 3), (o_ic (1), 1), (o_iadd, 1), (o_putf 4 2, 3), (o_iinc 4 (-1), 3), (o_goto 5, 3)]
def sg_X4_takeBytes_47 : jS := [(o_aload 0, 1), (o_getf 4 2, 3), (o_ireti, 1)]
def cd_X4_takeBytes : Nat → jS := fun t => match t with
  | 47 => sg_X4_takeBytes_47
  | _ => []
theorem wl_X4_takeBytes_16 : Cond.fieldLink RX4 16 (TX4 1).1 (TX4 1).2.1 (TX4 1).2.2.1 ∈ wsX4_takeBytes := by decide +kernel
theorem wl_X4_takeBytes_24 : Cond.fieldLink RX4 24 (TX4 2).1 (TX4 2).2.1 (TX4 2).2.2.1 ∈ wsX4_takeBytes := by decide +kernel
theorem wi_X4_takeBytes_X4 : ∀ w ∈ u_ws RX4 TX4 3, w ∈ wsX4_takeBytes := by decide +kernel
def E_X4_takeBytes (Γ : jΓ) (Q : jPost) : Prop := Γ.2.2.2.2.2.2.2.2.2.2.1 = 5 ∧ Γ.2.2.2.2.2.2.2.2.2.2.2.1 = vwCl ∧ jC Γ cX4_takeBytes RX4 "takeBytes" (some .int) wsX4_takeBytes 0 0 0 0 ∧ jR Γ Q 0 0
theorem oo_X4_takeBytes_0 {Γ : jΓ} {Q : jPost} (E : E_X4_takeBytes Γ Q) : jSA Γ Q 0 (o_iload 3) 1 := so_iload_n E.2.2.1 rfl dX4_takeBytes_0
theorem oo_X4_takeBytes_1 {Γ : jΓ} {Q : jPost} (E : E_X4_takeBytes Γ Q) : jSA Γ Q 1 (o_ic (1)) 1 := so_iconst E.2.2.1 rfl dX4_takeBytes_1
theorem oo_X4_takeBytes_2 {Γ : jΓ} {Q : jPost} (E : E_X4_takeBytes Γ Q) : jSA Γ Q 2 (o_isub) 1 := so_isub E.2.2.1 dX4_takeBytes_2
theorem oo_X4_takeBytes_3 {Γ : jΓ} {Q : jPost} (E : E_X4_takeBytes Γ Q) : jSA Γ Q 3 (o_istore 4) 2 := so_istore E.2.2.1 (by rw [E.1]; decide) dX4_takeBytes_3
theorem oo_X4_takeBytes_5 {Γ : jΓ} {Q : jPost} (E : E_X4_takeBytes Γ Q) : jSA Γ Q 5 (o_iload 4) 2 := so_iload E.2.2.1 dX4_takeBytes_5
theorem oo_X4_takeBytes_7 {Γ : jΓ} {Q : jPost} (E : E_X4_takeBytes Γ Q) : jSA Γ Q 7 (o_iflt 47) 3 := so_iflt E.2.2.1 (by decide) dX4_takeBytes_7
theorem oo_X4_takeBytes_10 {Γ : jΓ} {Q : jPost} (E : E_X4_takeBytes Γ Q) : jSA Γ Q 10 (o_aload 0) 1 := so_aload_n E.2.2.1 rfl dX4_takeBytes_10
theorem oo_X4_takeBytes_11 {Γ : jΓ} {Q : jPost} (E : E_X4_takeBytes Γ Q) : jSA Γ Q 11 (o_getf 4 1) 3 := so_getf (ci := 4) E.2.2.1 wi_X4_takeBytes_X4 (by rw [E.2.1]; rfl) 1 (by decide) wl_X4_takeBytes_16 dX4_takeBytes_11
theorem oo_X4_takeBytes_14 {Γ : jΓ} {Q : jPost} (E : E_X4_takeBytes Γ Q) : jSA Γ Q 14 (o_aload 0) 1 := so_aload_n E.2.2.1 rfl dX4_takeBytes_14
theorem oo_X4_takeBytes_15 {Γ : jΓ} {Q : jPost} (E : E_X4_takeBytes Γ Q) : jSA Γ Q 15 (o_getf 4 2) 3 := so_getf (ci := 4) E.2.2.1 wi_X4_takeBytes_X4 (by rw [E.2.1]; rfl) 2 (by decide) wl_X4_takeBytes_24 dX4_takeBytes_15
theorem oo_X4_takeBytes_18 {Γ : jΓ} {Q : jPost} (E : E_X4_takeBytes Γ Q) : jSA Γ Q 18 (o_lload 1) 1 := so_lload_n E.2.2.1 rfl dX4_takeBytes_18
theorem oo_X4_takeBytes_19 {Γ : jΓ} {Q : jPost} (E : E_X4_takeBytes Γ Q) : jSA Γ Q 19 (o_ic (8)) 2 := so_bipush E.2.2.1 rfl dX4_takeBytes_19
theorem oo_X4_takeBytes_21 {Γ : jΓ} {Q : jPost} (E : E_X4_takeBytes Γ Q) : jSA Γ Q 21 (o_iload 4) 2 := so_iload E.2.2.1 dX4_takeBytes_21
theorem oo_X4_takeBytes_23 {Γ : jΓ} {Q : jPost} (E : E_X4_takeBytes Γ Q) : jSA Γ Q 23 (o_imul) 1 := so_imul E.2.2.1 dX4_takeBytes_23
theorem oo_X4_takeBytes_24 {Γ : jΓ} {Q : jPost} (E : E_X4_takeBytes Γ Q) : jSA Γ Q 24 (o_lushr) 1 := so_lushr E.2.2.1 dX4_takeBytes_24
theorem oo_X4_takeBytes_25 {Γ : jΓ} {Q : jPost} (E : E_X4_takeBytes Γ Q) : jSA Γ Q 25 (o_l2i) 1 := so_l2i E.2.2.1 dX4_takeBytes_25
theorem oo_X4_takeBytes_26 {Γ : jΓ} {Q : jPost} (E : E_X4_takeBytes Γ Q) : jSA Γ Q 26 (o_ic (255)) 3 := so_sipush E.2.2.1 rfl dX4_takeBytes_26
theorem oo_X4_takeBytes_29 {Γ : jΓ} {Q : jPost} (E : E_X4_takeBytes Γ Q) : jSA Γ Q 29 (o_iand) 1 := so_iand E.2.2.1 dX4_takeBytes_29
theorem oo_X4_takeBytes_30 {Γ : jΓ} {Q : jPost} (E : E_X4_takeBytes Γ Q) : jSA Γ Q 30 (o_iast) 1 := so_iast E.2.2.1 dX4_takeBytes_30
theorem oo_X4_takeBytes_31 {Γ : jΓ} {Q : jPost} (E : E_X4_takeBytes Γ Q) : jSA Γ Q 31 (o_aload 0) 1 := so_aload_n E.2.2.1 rfl dX4_takeBytes_31
theorem oo_X4_takeBytes_32 {Γ : jΓ} {Q : jPost} (E : E_X4_takeBytes Γ Q) : jSA Γ Q 32 (o_dup) 1 := so_dup E.2.2.1 dX4_takeBytes_32
theorem oo_X4_takeBytes_33 {Γ : jΓ} {Q : jPost} (E : E_X4_takeBytes Γ Q) : jSA Γ Q 33 (o_getf 4 2) 3 := so_getf (ci := 4) E.2.2.1 wi_X4_takeBytes_X4 (by rw [E.2.1]; rfl) 2 (by decide) wl_X4_takeBytes_24 dX4_takeBytes_33
theorem oo_X4_takeBytes_36 {Γ : jΓ} {Q : jPost} (E : E_X4_takeBytes Γ Q) : jSA Γ Q 36 (o_ic (1)) 1 := so_iconst E.2.2.1 rfl dX4_takeBytes_36
theorem oo_X4_takeBytes_37 {Γ : jΓ} {Q : jPost} (E : E_X4_takeBytes Γ Q) : jSA Γ Q 37 (o_iadd) 1 := so_iadd E.2.2.1 dX4_takeBytes_37
theorem oo_X4_takeBytes_38 {Γ : jΓ} {Q : jPost} (E : E_X4_takeBytes Γ Q) : jSA Γ Q 38 (o_putf 4 2) 3 := so_putf (ci := 4) E.2.2.1 tyX4 tyX4_ok nmX4 wi_X4_takeBytes_X4 (by rw [E.2.1]; rfl) 2 (by decide) wl_X4_takeBytes_24 rfl (by decide +kernel) dX4_takeBytes_38
theorem oo_X4_takeBytes_41 {Γ : jΓ} {Q : jPost} (E : E_X4_takeBytes Γ Q) : jSA Γ Q 41 (o_iinc 4 (-1)) 3 := so_iinc E.2.2.1 rfl (by rw [E.1]; decide) dX4_takeBytes_41
theorem oo_X4_takeBytes_44 {Γ : jΓ} {Q : jPost} (E : E_X4_takeBytes Γ Q) : jSA Γ Q 44 (o_goto 5) 3 := so_goto E.2.2.1 (by decide) dX4_takeBytes_44
theorem oo_X4_takeBytes_47 {Γ : jΓ} {Q : jPost} (E : E_X4_takeBytes Γ Q) : jSA Γ Q 47 (o_aload 0) 1 := so_aload_n E.2.2.1 rfl dX4_takeBytes_47
theorem oo_X4_takeBytes_48 {Γ : jΓ} {Q : jPost} (E : E_X4_takeBytes Γ Q) : jSA Γ Q 48 (o_getf 4 2) 3 := so_getf (ci := 4) E.2.2.1 wi_X4_takeBytes_X4 (by rw [E.2.1]; rfl) 2 (by decide) wl_X4_takeBytes_24 dX4_takeBytes_48
theorem oo_X4_takeBytes_51 {Γ : jΓ} {Q : jPost} (E : E_X4_takeBytes Γ Q) : jSA Γ Q 51 (o_ireti) 1 := so_ireti E.2.2.1 E.2.2.2 dX4_takeBytes_51
theorem ok_X4_takeBytes_0 {Γ : jΓ} {Q : jPost} (E : E_X4_takeBytes Γ Q) : jSS Γ Q 0 sg_X4_takeBytes_0 := ⟨oo_X4_takeBytes_0 E, oo_X4_takeBytes_1 E, oo_X4_takeBytes_2 E, oo_X4_takeBytes_3 E, trivial⟩
theorem ok_X4_takeBytes_5 {Γ : jΓ} {Q : jPost} (E : E_X4_takeBytes Γ Q) : jSS Γ Q 5 sg_X4_takeBytes_5 := ⟨oo_X4_takeBytes_5 E, oo_X4_takeBytes_7 E, oo_X4_takeBytes_10 E, oo_X4_takeBytes_11 E, oo_X4_takeBytes_14 E, oo_X4_takeBytes_15 E, oo_X4_takeBytes_18 E, oo_X4_takeBytes_19 E, oo_X4_takeBytes_21 E, oo_X4_takeBytes_23 E, oo_X4_takeBytes_24 E, oo_X4_takeBytes_25 E, oo_X4_takeBytes_26 E, oo_X4_takeBytes_29 E, oo_X4_takeBytes_30 E, oo_X4_takeBytes_31 E, oo_X4_takeBytes_32 E, oo_X4_takeBytes_33 E, oo_X4_takeBytes_36 E, oo_X4_takeBytes_37 E, oo_X4_takeBytes_38 E, oo_X4_takeBytes_41 E, oo_X4_takeBytes_44 E, trivial⟩
theorem ok_X4_takeBytes_47 {Γ : jΓ} {Q : jPost} (E : E_X4_takeBytes Γ Q) : jSS Γ Q 47 sg_X4_takeBytes_47 := ⟨oo_X4_takeBytes_47 E, oo_X4_takeBytes_48 E, oo_X4_takeBytes_51 E, trivial⟩
theorem okc_X4_takeBytes {Γ : jΓ} {Q : jPost} (E : E_X4_takeBytes Γ Q) (t : Nat) : jSS Γ Q t (cd_X4_takeBytes t) := by
  unfold cd_X4_takeBytes
  split
  · exact ok_X4_takeBytes_47 E
  · trivial
theorem m_X4_takeBytes_of (l : Launch) (hv : ∀ (G : jGt) (Q : jPost) (vs : List Value) (K : List jK) (h : jM), jHd cd_X4_takeBytes G Q sg_X4_takeBytes_0 0 → jHd cd_X4_takeBytes G Q sg_X4_takeBytes_5 5 → T_X4_takeBytes vs K h Q → (lg_sl vs).length ≤ 5 ∧ G 0 (jinit vs 5) [] K h 0 0) : jHolds vwCl l yX4_takeBytes wsX4_takeBytes 0 0 0 0 T_X4_takeBytes := by
  refine jMet (cc := cX4_takeBytes) (maxL := 5) (rt := (some .int)) (by decide +kernel) rfl (fun Γ Q vs K h hl hn hcl C hR hT => hv (jG Γ) Q vs K h ?_ ?_ hT)
  · exact fun n L st K h ce sl => jwp_ok (okc_X4_takeBytes ⟨hn, hcl, C, hR⟩) n sg_X4_takeBytes_0 0 (ok_X4_takeBytes_0 ⟨hn, hcl, C, hR⟩) L st K h ce sl
  · exact fun n L st K h ce sl => jwp_ok (okc_X4_takeBytes ⟨hn, hcl, C, hR⟩) n sg_X4_takeBytes_5 5 (ok_X4_takeBytes_5 ⟨hn, hcl, C, hR⟩) L st K h ce sl
set_option maxHeartbeats 4000000 in
set_option maxRecDepth 100000 in
theorem v_X4_takeBytes {G : jGt} {Q : jPost} {K : List jK} {h : jM} {w : Int64} {n : Int32} (hT : jX K ∧ (1 ≤ n.toInt ∧ n.toInt ≤ 8) ∧ (0 ≤ (h 4 2).toInt ∧ (h 4 2).toInt + n.toInt ≤ 12) ∧ Q (some (.int (h 4 2 + n))) K (jtb h w n.toInt.toNat (h 4 2).toInt.toNat 0)) (H0 : jHd cd_X4_takeBytes G Q sg_X4_takeBytes_0 0) (H5 : jHd cd_X4_takeBytes G Q sg_X4_takeBytes_5 5) : G 0 [some (.ref 4), some (.long w), none, some (.int n), none] [] K h 0 0 := by
  obtain ⟨hX, ⟨hn0, hn1⟩, ⟨ht0, ht1⟩, hT⟩ := hT
  obtain ⟨m, hm, rfl⟩ : ∃ m, m ≤ 8 ∧ n = nI m := jnat (by omega) (by omega)
  obtain ⟨t, ht, ht2⟩ : ∃ t, t ≤ 12 ∧ h 4 2 = nI t := jnat (by omega) (by omega)
  rw [ht2] at hT ht0 ht1
  rw [nI_toInt (by omega), nI_toInt (by omega)] at hT
  rw [nI_toInt (by omega)] at hn0 hn1
  rw [nI_toInt (by omega), nI_toInt (by omega)] at ht1
  have loop : ∀ k, k ≤ m → G 5 [some (.ref 4), some (.long w), none, some (.int (nI m)), some (.int (nI k + -1))] [] K (jtb h w m t k) 0 0 := by
    intro k
    induction k with
    | zero =>
      intro hk
      refine H5 40 _ _ _ _ _ _ ?_
      simp only [sg_X4_takeBytes_0, sg_X4_takeBytes_5, sg_X4_takeBytes_47, cd_X4_takeBytes, jwp, o_ic, o_lc, o_iload, o_lload, o_aload, o_istore, o_lstore, o_astore, o_iinc, o_pop, o_dup, o_dup2, o_iadd, o_isub, o_imul, o_iand, o_ior, o_ishl, o_ladd, o_lmul, o_land, o_lor, o_idiv, o_irem, o_ineg, o_i2l, o_l2i, o_i2b, o_i2s, o_lushr, o_lshr, o_lshl, o_lcmp, o_ifeq, o_ifne, o_iflt, o_ifge, o_ifgt, o_ifle, o_iceq, o_icne, o_iclt, o_icge, o_icgt, o_icle, o_goto, o_tsw, jsw, o_lsw, jlk, o_getf, o_putf, o_putz, o_iald, o_zald, o_iast, o_zast, o_aald, o_alen, o_gets, o_zld, o_zlen, o_cpy, o_call, o_callV, o_ireti, o_iretz, o_lret, o_vret, jg, js, jkp, jkill, jsp, jcs, jfw, jov, Value.category, Option.toList_some, Option.toList_none, List.nil_append, List.cons_append, List.append_nil, Nat.reduceAdd, true_and, and_true, jb0, jb01, jb1, jem, true_or, or_true, Classical.not_not, forall_const, List.length_cons, List.length_nil, Nat.reduceLeDiff, Nat.zero_le, Nat.reduceLT, hX, kx_0_0 hX, kx_0_1 hX, kx_0_2 hX, kx_0_3 hX, kx_0_4 hX, kx_0_5 hX, kx_0_6 hX, kx_0_7 hX, kx_0_8 hX, kxo_0 hX, kx_1_0 hX, kx_1_1 hX, kx_1_2 hX, kx_1_3 hX, kxo_1 hX, kx_4_0 hX, kx_4_1 hX, kx_4_2 hX, kxo_4 hX, kx_19_0 hX, kx_19_1 hX, kx_19_2 hX, kx_19_3 hX, kx_19_4 hX, kxo_19 hX, kx_24_0 hX, kx_24_1 hX, kx_24_2 hX, kx_24_3 hX, kx_24_4 hX, kx_24_5 hX, kx_24_6 hX, kxo_24 hX, kxa_2 hX, kxa_3 hX, kxa_6 hX, kxa_7 hX, kxa_8 hX, kxa_9 hX, kxa_10 hX, kxa_18 hX, kxa_20 hX, kxa_21 hX, kxa_22 hX, kxa_23 hX, kxa_26 hX, kxa_27 hX, kxr_5 hX, kxr_11 hX, kxr_28 hX]
      rw [nI_neg1]
      refine ⟨fun _ => ?_, fun q => absurd (by decide) q⟩
      rw [jtb_2, Nat.sub_zero, ← nI_add]
      exact hT
    | succ k ih =>
      intro hk
      refine H5 60 _ _ _ _ _ _ ?_
      simp only [sg_X4_takeBytes_0, sg_X4_takeBytes_5, sg_X4_takeBytes_47, cd_X4_takeBytes, jwp, o_ic, o_lc, o_iload, o_lload, o_aload, o_istore, o_lstore, o_astore, o_iinc, o_pop, o_dup, o_dup2, o_iadd, o_isub, o_imul, o_iand, o_ior, o_ishl, o_ladd, o_lmul, o_land, o_lor, o_idiv, o_irem, o_ineg, o_i2l, o_l2i, o_i2b, o_i2s, o_lushr, o_lshr, o_lshl, o_lcmp, o_ifeq, o_ifne, o_iflt, o_ifge, o_ifgt, o_ifle, o_iceq, o_icne, o_iclt, o_icge, o_icgt, o_icle, o_goto, o_tsw, jsw, o_lsw, jlk, o_getf, o_putf, o_putz, o_iald, o_zald, o_iast, o_zast, o_aald, o_alen, o_gets, o_zld, o_zlen, o_cpy, o_call, o_callV, o_ireti, o_iretz, o_lret, o_vret, jg, js, jkp, jkill, jsp, jcs, jfw, jov, Value.category, Option.toList_some, Option.toList_none, List.nil_append, List.cons_append, List.append_nil, Nat.reduceAdd, true_and, and_true, jb0, jb01, jb1, jem, true_or, or_true, Classical.not_not, forall_const, List.length_cons, List.length_nil, Nat.reduceLeDiff, Nat.zero_le, Nat.reduceLT, hX, kx_0_0 hX, kx_0_1 hX, kx_0_2 hX, kx_0_3 hX, kx_0_4 hX, kx_0_5 hX, kx_0_6 hX, kx_0_7 hX, kx_0_8 hX, kxo_0 hX, kx_1_0 hX, kx_1_1 hX, kx_1_2 hX, kx_1_3 hX, kxo_1 hX, kx_4_0 hX, kx_4_1 hX, kx_4_2 hX, kxo_4 hX, kx_19_0 hX, kx_19_1 hX, kx_19_2 hX, kx_19_3 hX, kx_19_4 hX, kxo_19 hX, kx_24_0 hX, kx_24_1 hX, kx_24_2 hX, kx_24_3 hX, kx_24_4 hX, kx_24_5 hX, kx_24_6 hX, kxo_24 hX, kxa_2 hX, kxa_3 hX, kxa_6 hX, kxa_7 hX, kxa_8 hX, kxa_9 hX, kxa_10 hX, kxa_18 hX, kxa_20 hX, kxa_21 hX, kxa_22 hX, kxa_23 hX, kxa_26 hX, kxa_27 hX, kxr_5 hX, kxr_11 hX, kxr_28 hX]
      rw [nI_m1]
      have h2 := ih (by omega)
      refine ⟨fun q => absurd q (nI_pos (by omega)), fun _ => ?_⟩
      rw [jtb_2]
      refine ⟨vp_in_nI (by omega) (by decide), ?_⟩
      rw [nI_clamp (by omega), up2_n (by decide : ¬ 4 = 10), jtb_2, nI_1]
      have e := jtb_s h w m t k (by omega)
      unfold jbyC at e
      rw [e]
      exact h2
  refine H0 40 _ _ _ _ _ _ ?_
  simp only [sg_X4_takeBytes_0, sg_X4_takeBytes_5, sg_X4_takeBytes_47, cd_X4_takeBytes, jwp, o_ic, o_lc, o_iload, o_lload, o_aload, o_istore, o_lstore, o_astore, o_iinc, o_pop, o_dup, o_dup2, o_iadd, o_isub, o_imul, o_iand, o_ior, o_ishl, o_ladd, o_lmul, o_land, o_lor, o_idiv, o_irem, o_ineg, o_i2l, o_l2i, o_i2b, o_i2s, o_lushr, o_lshr, o_lshl, o_lcmp, o_ifeq, o_ifne, o_iflt, o_ifge, o_ifgt, o_ifle, o_iceq, o_icne, o_iclt, o_icge, o_icgt, o_icle, o_goto, o_tsw, jsw, o_lsw, jlk, o_getf, o_putf, o_putz, o_iald, o_zald, o_iast, o_zast, o_aald, o_alen, o_gets, o_zld, o_zlen, o_cpy, o_call, o_callV, o_ireti, o_iretz, o_lret, o_vret, jg, js, jkp, jkill, jsp, jcs, jfw, jov, Value.category, Option.toList_some, Option.toList_none, List.nil_append, List.cons_append, List.append_nil, Nat.reduceAdd, true_and, and_true, jb0, jb01, jb1, jem, true_or, or_true, Classical.not_not, forall_const, List.length_cons, List.length_nil, Nat.reduceLeDiff, Nat.zero_le, Nat.reduceLT, hX, kx_0_0 hX, kx_0_1 hX, kx_0_2 hX, kx_0_3 hX, kx_0_4 hX, kx_0_5 hX, kx_0_6 hX, kx_0_7 hX, kx_0_8 hX, kxo_0 hX, kx_1_0 hX, kx_1_1 hX, kx_1_2 hX, kx_1_3 hX, kxo_1 hX, kx_4_0 hX, kx_4_1 hX, kx_4_2 hX, kxo_4 hX, kx_19_0 hX, kx_19_1 hX, kx_19_2 hX, kx_19_3 hX, kx_19_4 hX, kxo_19 hX, kx_24_0 hX, kx_24_1 hX, kx_24_2 hX, kx_24_3 hX, kx_24_4 hX, kx_24_5 hX, kx_24_6 hX, kxo_24 hX, kxa_2 hX, kxa_3 hX, kxa_6 hX, kxa_7 hX, kxa_8 hX, kxa_9 hX, kxa_10 hX, kxa_18 hX, kxa_20 hX, kxa_21 hX, kxa_22 hX, kxa_23 hX, kxa_26 hX, kxa_27 hX, kxr_5 hX, kxr_11 hX, kxr_28 hX]
  have h2 := loop m (by omega)
  rw [jtb_0 h w m t ht2] at h2
  rw [show nI m - 1 = nI m + -1 from Int32.sub_eq_add_neg _ _]
  exact h2
theorem m_X4_takeBytes (l : Launch) : jHolds vwCl l yX4_takeBytes wsX4_takeBytes 0 0 0 0 T_X4_takeBytes := by
  refine m_X4_takeBytes_of l (fun G Q vs K h H0 H5 hT => ?_)
  unfold T_X4_takeBytes at hT
  split at hT
  · obtain ⟨rfl, hT⟩ := hT
    exact ⟨Nat.le_of_ble_eq_true rfl, v_X4_takeBytes hT H0 H5⟩
  · exact hT.elim

/-! X4_setFromTape -/
/-- what is on the tape is a rule here -/
def jfits (h : jM) (n d : Int32) : Prop := h 4 2 = n ∧ ∀ i, i < (h 4 2).toInt.toNat → ¬ jtof (h 10 i).toInt d = -1
/-- the first i letters of rule r are the tape's, if f -/
noncomputable def jset (h : jM) (f : Prop) (r : Nat) (d : Int32) (i : Nat) : jM := fun a k => @ite Int32 (f ∧ a = 6 + r ∧ k < i) (Classical.propDecidable _) (jtof (h 10 k).toInt d) (h a k)
theorem jset_o (h : jM) (f : Prop) (r : Nat) (d : Int32) (i : Nat) {a : Nat} (ha : ¬ a = 6 + r) : jset h f r d i a = h a := by
  funext k
  unfold jset
  rw [if_neg (fun q => ha q.2.1)]
theorem jset_no {h : jM} {f : Prop} {r : Nat} {d : Int32} {i : Nat} (hf : ¬ f) : jset h f r d i = h := by
  funext a k
  unfold jset
  rw [if_neg (fun q => hf q.1)]
theorem jset_0 (h : jM) (f : Prop) (r : Nat) (d : Int32) : jset h f r d 0 = h := by
  funext a k
  unfold jset
  rw [if_neg (fun q => absurd q.2.2 (by omega))]
theorem jset_s (h : jM) {f : Prop} (hf : f) {r : Nat} {d : Int32} {i : Nat} : up2 (jset h f r d i) (6 + r) i (jtof (h 10 i).toInt d) = jset h f r d (i + 1) := by
  funext a k
  by_cases ha : a = 6 + r
  · subst ha
    rw [up2_s]
    by_cases hk : k = i
    · subst hk
      rw [upd_s]
      unfold jset
      rw [if_pos ⟨hf, rfl, by omega⟩]
    · rw [upd_n hk]
      unfold jset
      by_cases h1 : k < i
      · rw [if_pos ⟨hf, rfl, h1⟩, if_pos ⟨hf, rfl, by omega⟩]
      · rw [if_neg (fun q => h1 q.2.2), if_neg (fun q => absurd q.2.2 (by omega))]
  · rw [up2_n ha, jset_o _ _ _ _ _ ha, jset_o _ _ _ _ _ ha]
def T_X4_setFromTape : jT := fun vs K h Q => match vs with
  | [.ref r0, .int r, .int n, .int d] => r0 = 4 ∧ (jX K ∧ vp_in r 4 ∧ (0 ≤ (h 4 2).toInt ∧ (h 4 2).toInt ≤ 12) ∧ Q (some (.int (jb (jfits h n d)))) K (up2 (jset h (jfits h n d) r.toNatClampNeg d (h 4 2).toInt.toNat) 4 2 0))
  | _ => False
def sg_X4_setFromTape_0 : jS := [(o_aload 0, 1), (o_getf 4 2, 3), (o_iload 2, 1), (o_icne 12, 3), (o_ic (1), 1), (o_goto 13, 3)]
def sg_X4_setFromTape_12 : jS := [(o_ic (0), 1), (o_istore 4, 2), (o_ic (0), 1), (o_istore 5, 2)]
def sg_X4_setFromTape_13 : jS := [(o_istore 4, 2), (o_ic (0), 1), (o_istore 5, 2)]
def sg_X4_setFromTape_18 : jS := [(o_iload 5, 2), (o_aload 0, 1), (o_getf 4 2, 3), (o_icge 60, 3), (o_iload 4, 2), (o_ifeq 51, 3), (o_aload 0, 1), (o_getf 4 1, 3), (o_iload 5, 2), (o_iald, 1), (o_iload 3, 1), (o_call 2 T_X4_turnOf, 3), (o_ic (-1), 1), (o_iceq 51, 3), (o_ic (1), 1), (o_goto 52, 3)]
def sg_X4_setFromTape_51 : jS := [(o_ic (0), 1), (o_istore 4, 2), (o_iinc 5 (1), 3), (o_goto 18, 3)]
def sg_X4_setFromTape_52 : jS := [(o_istore 4, 2), (o_iinc 5 (1), 3), (o_goto 18, 3)]
def sg_X4_setFromTape_60 : jS := [(o_ic (0), 1), (o_istore 5, 2)]
def sg_X4_setFromTape_63 : jS := [(o_iload 5, 2), (o_aload 0, 1), (o_getf 4 2, 3), (o_icge 103, 3), (o_iload 4, 2), (o_ifeq 103, 3), (o_aload 0, 1), (o_getf 4 0, 3), (o_iload 1, 1), (o_aald 4, 1), (o_iload 5, 2), (o_aload 0, 1), (o_getf 4 1, 3), (o_iload 5, 2), (o_iald, 1), (o_iload 3, 1), (o_call 2 T_X4_turnOf, 3), (o_iast, 1), (o_iinc 5 (1), 3), (o_goto 63, 3)]
def sg_X4_setFromTape_103 : jS := [(o_aload 0, 1), (o_ic (0), 1), (o_putf 4 2, 3), (o_iload 4, 2), (o_iretz, 1)]
def cd_X4_setFromTape : Nat → jS := fun t => match t with
  | 12 => sg_X4_setFromTape_12
  | 13 => sg_X4_setFromTape_13
  | 51 => sg_X4_setFromTape_51
  | 52 => sg_X4_setFromTape_52
  | 60 => sg_X4_setFromTape_60
  | 103 => sg_X4_setFromTape_103
  | _ => []
theorem wl_X4_setFromTape_11 : Cond.fieldLink RX4 11 (TX4 0).1 (TX4 0).2.1 (TX4 0).2.2.1 ∈ wsX4_setFromTape := by decide +kernel
theorem wl_X4_setFromTape_16 : Cond.fieldLink RX4 16 (TX4 1).1 (TX4 1).2.1 (TX4 1).2.2.1 ∈ wsX4_setFromTape := by decide +kernel
theorem wl_X4_setFromTape_24 : Cond.fieldLink RX4 24 (TX4 2).1 (TX4 2).2.1 (TX4 2).2.2.1 ∈ wsX4_setFromTape := by decide +kernel
theorem wi_X4_setFromTape_X4 : ∀ w ∈ u_ws RX4 TX4 3, w ∈ wsX4_setFromTape := by decide +kernel
def E_X4_setFromTape (Γ : jΓ) (Q : jPost) : Prop := Γ.2.2.2.2.2.2.2.2.2.2.1 = 6 ∧ Γ.2.2.2.2.2.2.2.2.2.2.2.1 = vwCl ∧ jC Γ cX4_setFromTape RX4 "setFromTape" (some .boolean) wsX4_setFromTape 1 22 0 0 ∧ jR Γ Q 0 0
theorem oo_X4_setFromTape_0 {Γ : jΓ} {Q : jPost} (E : E_X4_setFromTape Γ Q) : jSA Γ Q 0 (o_aload 0) 1 := so_aload_n E.2.2.1 rfl dX4_setFromTape_0
theorem oo_X4_setFromTape_1 {Γ : jΓ} {Q : jPost} (E : E_X4_setFromTape Γ Q) : jSA Γ Q 1 (o_getf 4 2) 3 := so_getf (ci := 4) E.2.2.1 wi_X4_setFromTape_X4 (by rw [E.2.1]; rfl) 2 (by decide) wl_X4_setFromTape_24 dX4_setFromTape_1
theorem oo_X4_setFromTape_4 {Γ : jΓ} {Q : jPost} (E : E_X4_setFromTape Γ Q) : jSA Γ Q 4 (o_iload 2) 1 := so_iload_n E.2.2.1 rfl dX4_setFromTape_4
theorem oo_X4_setFromTape_5 {Γ : jΓ} {Q : jPost} (E : E_X4_setFromTape Γ Q) : jSA Γ Q 5 (o_icne 12) 3 := so_icne E.2.2.1 (by decide) dX4_setFromTape_5
theorem oo_X4_setFromTape_8 {Γ : jΓ} {Q : jPost} (E : E_X4_setFromTape Γ Q) : jSA Γ Q 8 (o_ic (1)) 1 := so_iconst E.2.2.1 rfl dX4_setFromTape_8
theorem oo_X4_setFromTape_9 {Γ : jΓ} {Q : jPost} (E : E_X4_setFromTape Γ Q) : jSA Γ Q 9 (o_goto 13) 3 := so_goto E.2.2.1 (by decide) dX4_setFromTape_9
theorem oo_X4_setFromTape_12 {Γ : jΓ} {Q : jPost} (E : E_X4_setFromTape Γ Q) : jSA Γ Q 12 (o_ic (0)) 1 := so_iconst E.2.2.1 rfl dX4_setFromTape_12
theorem oo_X4_setFromTape_13 {Γ : jΓ} {Q : jPost} (E : E_X4_setFromTape Γ Q) : jSA Γ Q 13 (o_istore 4) 2 := so_istore E.2.2.1 (by rw [E.1]; decide) dX4_setFromTape_13
theorem oo_X4_setFromTape_15 {Γ : jΓ} {Q : jPost} (E : E_X4_setFromTape Γ Q) : jSA Γ Q 15 (o_ic (0)) 1 := so_iconst E.2.2.1 rfl dX4_setFromTape_15
theorem oo_X4_setFromTape_16 {Γ : jΓ} {Q : jPost} (E : E_X4_setFromTape Γ Q) : jSA Γ Q 16 (o_istore 5) 2 := so_istore E.2.2.1 (by rw [E.1]; decide) dX4_setFromTape_16
theorem oo_X4_setFromTape_18 {Γ : jΓ} {Q : jPost} (E : E_X4_setFromTape Γ Q) : jSA Γ Q 18 (o_iload 5) 2 := so_iload E.2.2.1 dX4_setFromTape_18
theorem oo_X4_setFromTape_20 {Γ : jΓ} {Q : jPost} (E : E_X4_setFromTape Γ Q) : jSA Γ Q 20 (o_aload 0) 1 := so_aload_n E.2.2.1 rfl dX4_setFromTape_20
theorem oo_X4_setFromTape_21 {Γ : jΓ} {Q : jPost} (E : E_X4_setFromTape Γ Q) : jSA Γ Q 21 (o_getf 4 2) 3 := so_getf (ci := 4) E.2.2.1 wi_X4_setFromTape_X4 (by rw [E.2.1]; rfl) 2 (by decide) wl_X4_setFromTape_24 dX4_setFromTape_21
theorem oo_X4_setFromTape_24 {Γ : jΓ} {Q : jPost} (E : E_X4_setFromTape Γ Q) : jSA Γ Q 24 (o_icge 60) 3 := so_icge E.2.2.1 (by decide) dX4_setFromTape_24
theorem oo_X4_setFromTape_27 {Γ : jΓ} {Q : jPost} (E : E_X4_setFromTape Γ Q) : jSA Γ Q 27 (o_iload 4) 2 := so_iload E.2.2.1 dX4_setFromTape_27
theorem oo_X4_setFromTape_29 {Γ : jΓ} {Q : jPost} (E : E_X4_setFromTape Γ Q) : jSA Γ Q 29 (o_ifeq 51) 3 := so_ifeq E.2.2.1 (by decide) dX4_setFromTape_29
theorem oo_X4_setFromTape_32 {Γ : jΓ} {Q : jPost} (E : E_X4_setFromTape Γ Q) : jSA Γ Q 32 (o_aload 0) 1 := so_aload_n E.2.2.1 rfl dX4_setFromTape_32
theorem oo_X4_setFromTape_33 {Γ : jΓ} {Q : jPost} (E : E_X4_setFromTape Γ Q) : jSA Γ Q 33 (o_getf 4 1) 3 := so_getf (ci := 4) E.2.2.1 wi_X4_setFromTape_X4 (by rw [E.2.1]; rfl) 1 (by decide) wl_X4_setFromTape_16 dX4_setFromTape_33
theorem oo_X4_setFromTape_36 {Γ : jΓ} {Q : jPost} (E : E_X4_setFromTape Γ Q) : jSA Γ Q 36 (o_iload 5) 2 := so_iload E.2.2.1 dX4_setFromTape_36
theorem oo_X4_setFromTape_38 {Γ : jΓ} {Q : jPost} (E : E_X4_setFromTape Γ Q) : jSA Γ Q 38 (o_iald) 1 := so_iald E.2.2.1 dX4_setFromTape_38
theorem oo_X4_setFromTape_39 {Γ : jΓ} {Q : jPost} (E : E_X4_setFromTape Γ Q) : jSA Γ Q 39 (o_iload 3) 1 := so_iload_n E.2.2.1 rfl dX4_setFromTape_39
theorem oo_X4_setFromTape_40 {Γ : jΓ} {Q : jPost} (E : E_X4_setFromTape Γ Q) : jSA Γ Q 40 (o_call 2 T_X4_turnOf) 3 := so_callS E.2.2.1 gX4_setFromTape_X4_turnOf (by decide +kernel) rfl (by rw [E.2.1]; exact m_X4_turnOf _) (by decide) (by decide) dX4_setFromTape_40
theorem oo_X4_setFromTape_43 {Γ : jΓ} {Q : jPost} (E : E_X4_setFromTape Γ Q) : jSA Γ Q 43 (o_ic (-1)) 1 := so_iconst E.2.2.1 rfl dX4_setFromTape_43
theorem oo_X4_setFromTape_44 {Γ : jΓ} {Q : jPost} (E : E_X4_setFromTape Γ Q) : jSA Γ Q 44 (o_iceq 51) 3 := so_iceq E.2.2.1 (by decide) dX4_setFromTape_44
theorem oo_X4_setFromTape_47 {Γ : jΓ} {Q : jPost} (E : E_X4_setFromTape Γ Q) : jSA Γ Q 47 (o_ic (1)) 1 := so_iconst E.2.2.1 rfl dX4_setFromTape_47
theorem oo_X4_setFromTape_48 {Γ : jΓ} {Q : jPost} (E : E_X4_setFromTape Γ Q) : jSA Γ Q 48 (o_goto 52) 3 := so_goto E.2.2.1 (by decide) dX4_setFromTape_48
theorem oo_X4_setFromTape_51 {Γ : jΓ} {Q : jPost} (E : E_X4_setFromTape Γ Q) : jSA Γ Q 51 (o_ic (0)) 1 := so_iconst E.2.2.1 rfl dX4_setFromTape_51
theorem oo_X4_setFromTape_52 {Γ : jΓ} {Q : jPost} (E : E_X4_setFromTape Γ Q) : jSA Γ Q 52 (o_istore 4) 2 := so_istore E.2.2.1 (by rw [E.1]; decide) dX4_setFromTape_52
theorem oo_X4_setFromTape_54 {Γ : jΓ} {Q : jPost} (E : E_X4_setFromTape Γ Q) : jSA Γ Q 54 (o_iinc 5 (1)) 3 := so_iinc E.2.2.1 rfl (by rw [E.1]; decide) dX4_setFromTape_54
theorem oo_X4_setFromTape_57 {Γ : jΓ} {Q : jPost} (E : E_X4_setFromTape Γ Q) : jSA Γ Q 57 (o_goto 18) 3 := so_goto E.2.2.1 (by decide) dX4_setFromTape_57
theorem oo_X4_setFromTape_60 {Γ : jΓ} {Q : jPost} (E : E_X4_setFromTape Γ Q) : jSA Γ Q 60 (o_ic (0)) 1 := so_iconst E.2.2.1 rfl dX4_setFromTape_60
theorem oo_X4_setFromTape_61 {Γ : jΓ} {Q : jPost} (E : E_X4_setFromTape Γ Q) : jSA Γ Q 61 (o_istore 5) 2 := so_istore E.2.2.1 (by rw [E.1]; decide) dX4_setFromTape_61
theorem oo_X4_setFromTape_63 {Γ : jΓ} {Q : jPost} (E : E_X4_setFromTape Γ Q) : jSA Γ Q 63 (o_iload 5) 2 := so_iload E.2.2.1 dX4_setFromTape_63
theorem oo_X4_setFromTape_65 {Γ : jΓ} {Q : jPost} (E : E_X4_setFromTape Γ Q) : jSA Γ Q 65 (o_aload 0) 1 := so_aload_n E.2.2.1 rfl dX4_setFromTape_65
theorem oo_X4_setFromTape_66 {Γ : jΓ} {Q : jPost} (E : E_X4_setFromTape Γ Q) : jSA Γ Q 66 (o_getf 4 2) 3 := so_getf (ci := 4) E.2.2.1 wi_X4_setFromTape_X4 (by rw [E.2.1]; rfl) 2 (by decide) wl_X4_setFromTape_24 dX4_setFromTape_66
theorem oo_X4_setFromTape_69 {Γ : jΓ} {Q : jPost} (E : E_X4_setFromTape Γ Q) : jSA Γ Q 69 (o_icge 103) 3 := so_icge E.2.2.1 (by decide) dX4_setFromTape_69
theorem oo_X4_setFromTape_72 {Γ : jΓ} {Q : jPost} (E : E_X4_setFromTape Γ Q) : jSA Γ Q 72 (o_iload 4) 2 := so_iload E.2.2.1 dX4_setFromTape_72
theorem oo_X4_setFromTape_74 {Γ : jΓ} {Q : jPost} (E : E_X4_setFromTape Γ Q) : jSA Γ Q 74 (o_ifeq 103) 3 := so_ifeq E.2.2.1 (by decide) dX4_setFromTape_74
theorem oo_X4_setFromTape_77 {Γ : jΓ} {Q : jPost} (E : E_X4_setFromTape Γ Q) : jSA Γ Q 77 (o_aload 0) 1 := so_aload_n E.2.2.1 rfl dX4_setFromTape_77
theorem oo_X4_setFromTape_78 {Γ : jΓ} {Q : jPost} (E : E_X4_setFromTape Γ Q) : jSA Γ Q 78 (o_getf 4 0) 3 := so_getf (ci := 4) E.2.2.1 wi_X4_setFromTape_X4 (by rw [E.2.1]; rfl) 0 (by decide) wl_X4_setFromTape_11 dX4_setFromTape_78
theorem oo_X4_setFromTape_81 {Γ : jΓ} {Q : jPost} (E : E_X4_setFromTape Γ Q) : jSA Γ Q 81 (o_iload 1) 1 := so_iload_n E.2.2.1 rfl dX4_setFromTape_81
theorem oo_X4_setFromTape_82 {Γ : jΓ} {Q : jPost} (E : E_X4_setFromTape Γ Q) : jSA Γ Q 82 (o_aald 4) 1 := so_aald4 E.2.2.1 dX4_setFromTape_82
theorem oo_X4_setFromTape_83 {Γ : jΓ} {Q : jPost} (E : E_X4_setFromTape Γ Q) : jSA Γ Q 83 (o_iload 5) 2 := so_iload E.2.2.1 dX4_setFromTape_83
theorem oo_X4_setFromTape_85 {Γ : jΓ} {Q : jPost} (E : E_X4_setFromTape Γ Q) : jSA Γ Q 85 (o_aload 0) 1 := so_aload_n E.2.2.1 rfl dX4_setFromTape_85
theorem oo_X4_setFromTape_86 {Γ : jΓ} {Q : jPost} (E : E_X4_setFromTape Γ Q) : jSA Γ Q 86 (o_getf 4 1) 3 := so_getf (ci := 4) E.2.2.1 wi_X4_setFromTape_X4 (by rw [E.2.1]; rfl) 1 (by decide) wl_X4_setFromTape_16 dX4_setFromTape_86
theorem oo_X4_setFromTape_89 {Γ : jΓ} {Q : jPost} (E : E_X4_setFromTape Γ Q) : jSA Γ Q 89 (o_iload 5) 2 := so_iload E.2.2.1 dX4_setFromTape_89
theorem oo_X4_setFromTape_91 {Γ : jΓ} {Q : jPost} (E : E_X4_setFromTape Γ Q) : jSA Γ Q 91 (o_iald) 1 := so_iald E.2.2.1 dX4_setFromTape_91
theorem oo_X4_setFromTape_92 {Γ : jΓ} {Q : jPost} (E : E_X4_setFromTape Γ Q) : jSA Γ Q 92 (o_iload 3) 1 := so_iload_n E.2.2.1 rfl dX4_setFromTape_92
theorem oo_X4_setFromTape_93 {Γ : jΓ} {Q : jPost} (E : E_X4_setFromTape Γ Q) : jSA Γ Q 93 (o_call 2 T_X4_turnOf) 3 := so_callS E.2.2.1 gX4_setFromTape_X4_turnOf (by decide +kernel) rfl (by rw [E.2.1]; exact m_X4_turnOf _) (by decide) (by decide) dX4_setFromTape_93
theorem oo_X4_setFromTape_96 {Γ : jΓ} {Q : jPost} (E : E_X4_setFromTape Γ Q) : jSA Γ Q 96 (o_iast) 1 := so_iast E.2.2.1 dX4_setFromTape_96
theorem oo_X4_setFromTape_97 {Γ : jΓ} {Q : jPost} (E : E_X4_setFromTape Γ Q) : jSA Γ Q 97 (o_iinc 5 (1)) 3 := so_iinc E.2.2.1 rfl (by rw [E.1]; decide) dX4_setFromTape_97
theorem oo_X4_setFromTape_100 {Γ : jΓ} {Q : jPost} (E : E_X4_setFromTape Γ Q) : jSA Γ Q 100 (o_goto 63) 3 := so_goto E.2.2.1 (by decide) dX4_setFromTape_100
theorem oo_X4_setFromTape_103 {Γ : jΓ} {Q : jPost} (E : E_X4_setFromTape Γ Q) : jSA Γ Q 103 (o_aload 0) 1 := so_aload_n E.2.2.1 rfl dX4_setFromTape_103
theorem oo_X4_setFromTape_104 {Γ : jΓ} {Q : jPost} (E : E_X4_setFromTape Γ Q) : jSA Γ Q 104 (o_ic (0)) 1 := so_iconst E.2.2.1 rfl dX4_setFromTape_104
theorem oo_X4_setFromTape_105 {Γ : jΓ} {Q : jPost} (E : E_X4_setFromTape Γ Q) : jSA Γ Q 105 (o_putf 4 2) 3 := so_putf (ci := 4) E.2.2.1 tyX4 tyX4_ok nmX4 wi_X4_setFromTape_X4 (by rw [E.2.1]; rfl) 2 (by decide) wl_X4_setFromTape_24 rfl (by decide +kernel) dX4_setFromTape_105
theorem oo_X4_setFromTape_108 {Γ : jΓ} {Q : jPost} (E : E_X4_setFromTape Γ Q) : jSA Γ Q 108 (o_iload 4) 2 := so_iload E.2.2.1 dX4_setFromTape_108
theorem oo_X4_setFromTape_110 {Γ : jΓ} {Q : jPost} (E : E_X4_setFromTape Γ Q) : jSA Γ Q 110 (o_iretz) 1 := so_iretz E.2.2.1 E.2.2.2 dX4_setFromTape_110
theorem ok_X4_setFromTape_0 {Γ : jΓ} {Q : jPost} (E : E_X4_setFromTape Γ Q) : jSS Γ Q 0 sg_X4_setFromTape_0 := ⟨oo_X4_setFromTape_0 E, oo_X4_setFromTape_1 E, oo_X4_setFromTape_4 E, oo_X4_setFromTape_5 E, oo_X4_setFromTape_8 E, oo_X4_setFromTape_9 E, trivial⟩
theorem ok_X4_setFromTape_12 {Γ : jΓ} {Q : jPost} (E : E_X4_setFromTape Γ Q) : jSS Γ Q 12 sg_X4_setFromTape_12 := ⟨oo_X4_setFromTape_12 E, oo_X4_setFromTape_13 E, oo_X4_setFromTape_15 E, oo_X4_setFromTape_16 E, trivial⟩
theorem ok_X4_setFromTape_13 {Γ : jΓ} {Q : jPost} (E : E_X4_setFromTape Γ Q) : jSS Γ Q 13 sg_X4_setFromTape_13 := ⟨oo_X4_setFromTape_13 E, oo_X4_setFromTape_15 E, oo_X4_setFromTape_16 E, trivial⟩
theorem ok_X4_setFromTape_18 {Γ : jΓ} {Q : jPost} (E : E_X4_setFromTape Γ Q) : jSS Γ Q 18 sg_X4_setFromTape_18 := ⟨oo_X4_setFromTape_18 E, oo_X4_setFromTape_20 E, oo_X4_setFromTape_21 E, oo_X4_setFromTape_24 E, oo_X4_setFromTape_27 E, oo_X4_setFromTape_29 E, oo_X4_setFromTape_32 E, oo_X4_setFromTape_33 E, oo_X4_setFromTape_36 E, oo_X4_setFromTape_38 E, oo_X4_setFromTape_39 E, oo_X4_setFromTape_40 E, oo_X4_setFromTape_43 E, oo_X4_setFromTape_44 E, oo_X4_setFromTape_47 E, oo_X4_setFromTape_48 E, trivial⟩
theorem ok_X4_setFromTape_51 {Γ : jΓ} {Q : jPost} (E : E_X4_setFromTape Γ Q) : jSS Γ Q 51 sg_X4_setFromTape_51 := ⟨oo_X4_setFromTape_51 E, oo_X4_setFromTape_52 E, oo_X4_setFromTape_54 E, oo_X4_setFromTape_57 E, trivial⟩
theorem ok_X4_setFromTape_52 {Γ : jΓ} {Q : jPost} (E : E_X4_setFromTape Γ Q) : jSS Γ Q 52 sg_X4_setFromTape_52 := ⟨oo_X4_setFromTape_52 E, oo_X4_setFromTape_54 E, oo_X4_setFromTape_57 E, trivial⟩
theorem ok_X4_setFromTape_60 {Γ : jΓ} {Q : jPost} (E : E_X4_setFromTape Γ Q) : jSS Γ Q 60 sg_X4_setFromTape_60 := ⟨oo_X4_setFromTape_60 E, oo_X4_setFromTape_61 E, trivial⟩
theorem ok_X4_setFromTape_63 {Γ : jΓ} {Q : jPost} (E : E_X4_setFromTape Γ Q) : jSS Γ Q 63 sg_X4_setFromTape_63 := ⟨oo_X4_setFromTape_63 E, oo_X4_setFromTape_65 E, oo_X4_setFromTape_66 E, oo_X4_setFromTape_69 E, oo_X4_setFromTape_72 E, oo_X4_setFromTape_74 E, oo_X4_setFromTape_77 E, oo_X4_setFromTape_78 E, oo_X4_setFromTape_81 E, oo_X4_setFromTape_82 E, oo_X4_setFromTape_83 E, oo_X4_setFromTape_85 E, oo_X4_setFromTape_86 E, oo_X4_setFromTape_89 E, oo_X4_setFromTape_91 E, oo_X4_setFromTape_92 E, oo_X4_setFromTape_93 E, oo_X4_setFromTape_96 E, oo_X4_setFromTape_97 E, oo_X4_setFromTape_100 E, trivial⟩
theorem ok_X4_setFromTape_103 {Γ : jΓ} {Q : jPost} (E : E_X4_setFromTape Γ Q) : jSS Γ Q 103 sg_X4_setFromTape_103 := ⟨oo_X4_setFromTape_103 E, oo_X4_setFromTape_104 E, oo_X4_setFromTape_105 E, oo_X4_setFromTape_108 E, oo_X4_setFromTape_110 E, trivial⟩
theorem okc_X4_setFromTape {Γ : jΓ} {Q : jPost} (E : E_X4_setFromTape Γ Q) (t : Nat) : jSS Γ Q t (cd_X4_setFromTape t) := by
  unfold cd_X4_setFromTape
  split
  · exact ok_X4_setFromTape_12 E
  · exact ok_X4_setFromTape_13 E
  · exact ok_X4_setFromTape_51 E
  · exact ok_X4_setFromTape_52 E
  · exact ok_X4_setFromTape_60 E
  · exact ok_X4_setFromTape_103 E
  · trivial
theorem m_X4_setFromTape_of (l : Launch) (hv : ∀ (G : jGt) (Q : jPost) (vs : List Value) (K : List jK) (h : jM), jHd cd_X4_setFromTape G Q sg_X4_setFromTape_0 0 → jHd cd_X4_setFromTape G Q sg_X4_setFromTape_18 18 → jHd cd_X4_setFromTape G Q sg_X4_setFromTape_63 63 → T_X4_setFromTape vs K h Q → (lg_sl vs).length ≤ 6 ∧ G 0 (jinit vs 6) [] K h 0 0) : jHolds vwCl l yX4_setFromTape wsX4_setFromTape 1 22 0 0 T_X4_setFromTape := by
  refine jMet (cc := cX4_setFromTape) (maxL := 6) (rt := (some .boolean)) (by decide +kernel) rfl (fun Γ Q vs K h hl hn hcl C hR hT => hv (jG Γ) Q vs K h ?_ ?_ ?_ hT)
  · exact fun n L st K h ce sl => jwp_ok (okc_X4_setFromTape ⟨hn, hcl, C, hR⟩) n sg_X4_setFromTape_0 0 (ok_X4_setFromTape_0 ⟨hn, hcl, C, hR⟩) L st K h ce sl
  · exact fun n L st K h ce sl => jwp_ok (okc_X4_setFromTape ⟨hn, hcl, C, hR⟩) n sg_X4_setFromTape_18 18 (ok_X4_setFromTape_18 ⟨hn, hcl, C, hR⟩) L st K h ce sl
  · exact fun n L st K h ce sl => jwp_ok (okc_X4_setFromTape ⟨hn, hcl, C, hR⟩) n sg_X4_setFromTape_63 63 (ok_X4_setFromTape_63 ⟨hn, hcl, C, hR⟩) L st K h ce sl
set_option maxHeartbeats 4000000 in
set_option maxRecDepth 100000 in
theorem v_X4_setFromTape {G : jGt} {Q : jPost} {K : List jK} {h : jM} {r : Int32} {n : Int32} {d : Int32} (hT : jX K ∧ vp_in r 4 ∧ (0 ≤ (h 4 2).toInt ∧ (h 4 2).toInt ≤ 12) ∧ Q (some (.int (jb (jfits h n d)))) K (up2 (jset h (jfits h n d) r.toNatClampNeg d (h 4 2).toInt.toNat) 4 2 0)) (H0 : jHd cd_X4_setFromTape G Q sg_X4_setFromTape_0 0) (H18 : jHd cd_X4_setFromTape G Q sg_X4_setFromTape_18 18) (H63 : jHd cd_X4_setFromTape G Q sg_X4_setFromTape_63 63) : G 0 [some (.ref 4), some (.int r), some (.int n), some (.int d), none, none] [] K h 0 0 := by
  obtain ⟨hX, hr, ⟨ht0, ht1⟩, hT⟩ := hT
  obtain ⟨j, hj, rfl⟩ := vp_in_of hr (by decide)
  obtain ⟨t, ht, ht2⟩ : ∃ t, t ≤ 12 ∧ h 4 2 = nI t := jnat (by omega) (by omega)
  rw [ht2, nI_toInt (by omega), nI_clamp (by omega)] at hT
  have l2 : ∀ k i, i + k = t → G 63 [some (.ref 4), some (.int (nI j)), some (.int n), some (.int d), some (.int (jb (jfits h n d))), some (.int (nI i))] [] K (jset h (jfits h n d) j d i) 0 0 := by
    intro k
    induction k with
    | zero =>
      intro i hi
      have : i = t := by omega
      subst this
      refine H63 60 _ _ _ _ _ _ ?_
      simp only [sg_X4_setFromTape_0, sg_X4_setFromTape_12, sg_X4_setFromTape_13, sg_X4_setFromTape_18, sg_X4_setFromTape_51, sg_X4_setFromTape_52, sg_X4_setFromTape_60, sg_X4_setFromTape_63, sg_X4_setFromTape_103, cd_X4_setFromTape, jwp, o_ic, o_lc, o_iload, o_lload, o_aload, o_istore, o_lstore, o_astore, o_iinc, o_pop, o_dup, o_dup2, o_iadd, o_isub, o_imul, o_iand, o_ior, o_ishl, o_ladd, o_lmul, o_land, o_lor, o_idiv, o_irem, o_ineg, o_i2l, o_l2i, o_i2b, o_i2s, o_lushr, o_lshr, o_lshl, o_lcmp, o_ifeq, o_ifne, o_iflt, o_ifge, o_ifgt, o_ifle, o_iceq, o_icne, o_iclt, o_icge, o_icgt, o_icle, o_goto, o_tsw, jsw, o_lsw, jlk, o_getf, o_putf, o_putz, o_iald, o_zald, o_iast, o_zast, o_aald, o_alen, o_gets, o_zld, o_zlen, o_cpy, o_call, o_callV, o_ireti, o_iretz, o_lret, o_vret, jg, js, jkp, jkill, jsp, jcs, jfw, jov, Value.category, Option.toList_some, Option.toList_none, List.nil_append, List.cons_append, List.append_nil, Nat.reduceAdd, true_and, and_true, jb0, jb01, jb1, jem, true_or, or_true, Classical.not_not, forall_const, List.length_cons, List.length_nil, Nat.reduceLeDiff, Nat.zero_le, Nat.reduceLT, hX, kx_0_0 hX, kx_0_1 hX, kx_0_2 hX, kx_0_3 hX, kx_0_4 hX, kx_0_5 hX, kx_0_6 hX, kx_0_7 hX, kx_0_8 hX, kxo_0 hX, kx_1_0 hX, kx_1_1 hX, kx_1_2 hX, kx_1_3 hX, kxo_1 hX, kx_4_0 hX, kx_4_1 hX, kx_4_2 hX, kxo_4 hX, kx_19_0 hX, kx_19_1 hX, kx_19_2 hX, kx_19_3 hX, kx_19_4 hX, kxo_19 hX, kx_24_0 hX, kx_24_1 hX, kx_24_2 hX, kx_24_3 hX, kx_24_4 hX, kx_24_5 hX, kx_24_6 hX, kxo_24 hX, kxa_2 hX, kxa_3 hX, kxa_6 hX, kxa_7 hX, kxa_8 hX, kxa_9 hX, kxa_10 hX, kxa_18 hX, kxa_20 hX, kxa_21 hX, kxa_22 hX, kxa_23 hX, kxa_26 hX, kxa_27 hX, kxr_5 hX, kxr_11 hX, kxr_28 hX, T_X4_turnOf]
      rw [jset_o _ _ _ _ _ (by omega), ht2]
      exact ⟨fun _ => hT, fun q => absurd (Int32.le_refl _) q⟩
    | succ k ih =>
      intro i hi
      have h2 := ih (i + 1) (by omega)
      refine H63 60 _ _ _ _ _ _ ?_
      simp only [sg_X4_setFromTape_0, sg_X4_setFromTape_12, sg_X4_setFromTape_13, sg_X4_setFromTape_18, sg_X4_setFromTape_51, sg_X4_setFromTape_52, sg_X4_setFromTape_60, sg_X4_setFromTape_63, sg_X4_setFromTape_103, cd_X4_setFromTape, jwp, o_ic, o_lc, o_iload, o_lload, o_aload, o_istore, o_lstore, o_astore, o_iinc, o_pop, o_dup, o_dup2, o_iadd, o_isub, o_imul, o_iand, o_ior, o_ishl, o_ladd, o_lmul, o_land, o_lor, o_idiv, o_irem, o_ineg, o_i2l, o_l2i, o_i2b, o_i2s, o_lushr, o_lshr, o_lshl, o_lcmp, o_ifeq, o_ifne, o_iflt, o_ifge, o_ifgt, o_ifle, o_iceq, o_icne, o_iclt, o_icge, o_icgt, o_icle, o_goto, o_tsw, jsw, o_lsw, jlk, o_getf, o_putf, o_putz, o_iald, o_zald, o_iast, o_zast, o_aald, o_alen, o_gets, o_zld, o_zlen, o_cpy, o_call, o_callV, o_ireti, o_iretz, o_lret, o_vret, jg, js, jkp, jkill, jsp, jcs, jfw, jov, Value.category, Option.toList_some, Option.toList_none, List.nil_append, List.cons_append, List.append_nil, Nat.reduceAdd, true_and, and_true, jb0, jb01, jb1, jem, true_or, or_true, Classical.not_not, forall_const, List.length_cons, List.length_nil, Nat.reduceLeDiff, Nat.zero_le, Nat.reduceLT, hX, kx_0_0 hX, kx_0_1 hX, kx_0_2 hX, kx_0_3 hX, kx_0_4 hX, kx_0_5 hX, kx_0_6 hX, kx_0_7 hX, kx_0_8 hX, kxo_0 hX, kx_1_0 hX, kx_1_1 hX, kx_1_2 hX, kx_1_3 hX, kxo_1 hX, kx_4_0 hX, kx_4_1 hX, kx_4_2 hX, kxo_4 hX, kx_19_0 hX, kx_19_1 hX, kx_19_2 hX, kx_19_3 hX, kx_19_4 hX, kxo_19 hX, kx_24_0 hX, kx_24_1 hX, kx_24_2 hX, kx_24_3 hX, kx_24_4 hX, kx_24_5 hX, kx_24_6 hX, kxo_24 hX, kxa_2 hX, kxa_3 hX, kxa_6 hX, kxa_7 hX, kxa_8 hX, kxa_9 hX, kxa_10 hX, kxa_18 hX, kxa_20 hX, kxa_21 hX, kxa_22 hX, kxa_23 hX, kxa_26 hX, kxa_27 hX, kxr_5 hX, kxr_11 hX, kxr_28 hX, T_X4_turnOf]
      rw [jset_o _ _ _ _ _ (by omega), ht2, jset_o _ _ _ _ _ (by omega)]
      refine ⟨fun q => absurd ((nI_leI (by omega) (by omega)).mp q) (by omega), fun _ => ⟨fun q => ?_, fun q => ?_⟩⟩
      · have e1 : jset h (jfits h n d) j d i = jset h (jfits h n d) j d t := by rw [jset_no q, jset_no q]
        rw [e1]
        exact hT
      · rw [nI_clamp (by omega : j < 2147483648)]
        simp only [kx_rows hj, kx_rowl hX hj]
        rw [nI_clamp (by omega : i < 2147483648), nI_1]
        refine ⟨vp_in_nI (by simpa using hj) (by decide), vp_in_nI (by omega) (by decide), by decide, vp_in_nI (by omega) (by decide), ?_⟩
        rw [jset_s _ q]
        exact h2
  have l1 : ∀ k i, i + k = t → G 18 [some (.ref 4), some (.int (nI j)), some (.int n), some (.int d), some (.int (jb (h 4 2 = n ∧ ∀ q, q < i → ¬ jtof (h 10 q).toInt d = -1))), some (.int (nI i))] [] K h 0 0 := by
    intro k
    induction k with
    | zero =>
      intro i hi
      have : i = t := by omega
      subst this
      refine H18 60 _ _ _ _ _ _ ?_
      simp only [sg_X4_setFromTape_0, sg_X4_setFromTape_12, sg_X4_setFromTape_13, sg_X4_setFromTape_18, sg_X4_setFromTape_51, sg_X4_setFromTape_52, sg_X4_setFromTape_60, sg_X4_setFromTape_63, sg_X4_setFromTape_103, cd_X4_setFromTape, jwp, o_ic, o_lc, o_iload, o_lload, o_aload, o_istore, o_lstore, o_astore, o_iinc, o_pop, o_dup, o_dup2, o_iadd, o_isub, o_imul, o_iand, o_ior, o_ishl, o_ladd, o_lmul, o_land, o_lor, o_idiv, o_irem, o_ineg, o_i2l, o_l2i, o_i2b, o_i2s, o_lushr, o_lshr, o_lshl, o_lcmp, o_ifeq, o_ifne, o_iflt, o_ifge, o_ifgt, o_ifle, o_iceq, o_icne, o_iclt, o_icge, o_icgt, o_icle, o_goto, o_tsw, jsw, o_lsw, jlk, o_getf, o_putf, o_putz, o_iald, o_zald, o_iast, o_zast, o_aald, o_alen, o_gets, o_zld, o_zlen, o_cpy, o_call, o_callV, o_ireti, o_iretz, o_lret, o_vret, jg, js, jkp, jkill, jsp, jcs, jfw, jov, Value.category, Option.toList_some, Option.toList_none, List.nil_append, List.cons_append, List.append_nil, Nat.reduceAdd, true_and, and_true, jb0, jb01, jb1, jem, true_or, or_true, Classical.not_not, forall_const, List.length_cons, List.length_nil, Nat.reduceLeDiff, Nat.zero_le, Nat.reduceLT, hX, kx_0_0 hX, kx_0_1 hX, kx_0_2 hX, kx_0_3 hX, kx_0_4 hX, kx_0_5 hX, kx_0_6 hX, kx_0_7 hX, kx_0_8 hX, kxo_0 hX, kx_1_0 hX, kx_1_1 hX, kx_1_2 hX, kx_1_3 hX, kxo_1 hX, kx_4_0 hX, kx_4_1 hX, kx_4_2 hX, kxo_4 hX, kx_19_0 hX, kx_19_1 hX, kx_19_2 hX, kx_19_3 hX, kx_19_4 hX, kxo_19 hX, kx_24_0 hX, kx_24_1 hX, kx_24_2 hX, kx_24_3 hX, kx_24_4 hX, kx_24_5 hX, kx_24_6 hX, kxo_24 hX, kxa_2 hX, kxa_3 hX, kxa_6 hX, kxa_7 hX, kxa_8 hX, kxa_9 hX, kxa_10 hX, kxa_18 hX, kxa_20 hX, kxa_21 hX, kxa_22 hX, kxa_23 hX, kxa_26 hX, kxa_27 hX, kxr_5 hX, kxr_11 hX, kxr_28 hX, T_X4_turnOf]
      rw [ht2]
      refine ⟨fun _ => ?_, fun q => absurd (Int32.le_refl _) q⟩
      have h2 := l2 i 0 (by omega)
      rw [jset_0] at h2
      have e : (h 4 2 = n ∧ ∀ q, q < i → ¬ jtof (h 10 q).toInt d = -1) = jfits h n d := by
        unfold jfits
        rw [ht2, nI_toInt (by omega)]
        rfl
      rw [ht2] at e
      rw [e]
      exact h2
    | succ k ih =>
      intro i hi
      have h2 := ih (i + 1) (by omega)
      refine H18 60 _ _ _ _ _ _ ?_
      simp only [sg_X4_setFromTape_0, sg_X4_setFromTape_12, sg_X4_setFromTape_13, sg_X4_setFromTape_18, sg_X4_setFromTape_51, sg_X4_setFromTape_52, sg_X4_setFromTape_60, sg_X4_setFromTape_63, sg_X4_setFromTape_103, cd_X4_setFromTape, jwp, o_ic, o_lc, o_iload, o_lload, o_aload, o_istore, o_lstore, o_astore, o_iinc, o_pop, o_dup, o_dup2, o_iadd, o_isub, o_imul, o_iand, o_ior, o_ishl, o_ladd, o_lmul, o_land, o_lor, o_idiv, o_irem, o_ineg, o_i2l, o_l2i, o_i2b, o_i2s, o_lushr, o_lshr, o_lshl, o_lcmp, o_ifeq, o_ifne, o_iflt, o_ifge, o_ifgt, o_ifle, o_iceq, o_icne, o_iclt, o_icge, o_icgt, o_icle, o_goto, o_tsw, jsw, o_lsw, jlk, o_getf, o_putf, o_putz, o_iald, o_zald, o_iast, o_zast, o_aald, o_alen, o_gets, o_zld, o_zlen, o_cpy, o_call, o_callV, o_ireti, o_iretz, o_lret, o_vret, jg, js, jkp, jkill, jsp, jcs, jfw, jov, Value.category, Option.toList_some, Option.toList_none, List.nil_append, List.cons_append, List.append_nil, Nat.reduceAdd, true_and, and_true, jb0, jb01, jb1, jem, true_or, or_true, Classical.not_not, forall_const, List.length_cons, List.length_nil, Nat.reduceLeDiff, Nat.zero_le, Nat.reduceLT, hX, kx_0_0 hX, kx_0_1 hX, kx_0_2 hX, kx_0_3 hX, kx_0_4 hX, kx_0_5 hX, kx_0_6 hX, kx_0_7 hX, kx_0_8 hX, kxo_0 hX, kx_1_0 hX, kx_1_1 hX, kx_1_2 hX, kx_1_3 hX, kxo_1 hX, kx_4_0 hX, kx_4_1 hX, kx_4_2 hX, kxo_4 hX, kx_19_0 hX, kx_19_1 hX, kx_19_2 hX, kx_19_3 hX, kx_19_4 hX, kxo_19 hX, kx_24_0 hX, kx_24_1 hX, kx_24_2 hX, kx_24_3 hX, kx_24_4 hX, kx_24_5 hX, kx_24_6 hX, kxo_24 hX, kxa_2 hX, kxa_3 hX, kxa_6 hX, kxa_7 hX, kxa_8 hX, kxa_9 hX, kxa_10 hX, kxa_18 hX, kxa_20 hX, kxa_21 hX, kxa_22 hX, kxa_23 hX, kxa_26 hX, kxa_27 hX, kxr_5 hX, kxr_11 hX, kxr_28 hX, T_X4_turnOf]
      refine ⟨fun q => absurd (by rw [ht2] at q; exact (nI_leI (by omega) (by omega)).mp q) (by omega), fun _ => ⟨fun q => ?_, fun q => ⟨vp_in_nI (by omega) (by decide), fun q2 => ?_, fun q2 => ?_⟩⟩⟩
      · rw [jb_neg (fun z => q ⟨z.1, fun q3 h3 => z.2 q3 (by omega)⟩)] at h2
        rw [nI_1]
        exact h2
      · rw [nI_clamp (by omega)] at q2
        rw [jb_neg (fun z => z.2 i (by omega) q2)] at h2
        rw [nI_1]
        exact h2
      · rw [nI_clamp (by omega)] at q2
        rw [jb_pos ⟨q.1, fun q3 h3 => by
          by_cases e : q3 = i
          · rw [e]; exact q2
          · exact q.2 q3 (by omega)⟩] at h2
        rw [nI_1]
        exact h2
  refine H0 60 _ _ _ _ _ _ ?_
  simp only [sg_X4_setFromTape_0, sg_X4_setFromTape_12, sg_X4_setFromTape_13, sg_X4_setFromTape_18, sg_X4_setFromTape_51, sg_X4_setFromTape_52, sg_X4_setFromTape_60, sg_X4_setFromTape_63, sg_X4_setFromTape_103, cd_X4_setFromTape, jwp, o_ic, o_lc, o_iload, o_lload, o_aload, o_istore, o_lstore, o_astore, o_iinc, o_pop, o_dup, o_dup2, o_iadd, o_isub, o_imul, o_iand, o_ior, o_ishl, o_ladd, o_lmul, o_land, o_lor, o_idiv, o_irem, o_ineg, o_i2l, o_l2i, o_i2b, o_i2s, o_lushr, o_lshr, o_lshl, o_lcmp, o_ifeq, o_ifne, o_iflt, o_ifge, o_ifgt, o_ifle, o_iceq, o_icne, o_iclt, o_icge, o_icgt, o_icle, o_goto, o_tsw, jsw, o_lsw, jlk, o_getf, o_putf, o_putz, o_iald, o_zald, o_iast, o_zast, o_aald, o_alen, o_gets, o_zld, o_zlen, o_cpy, o_call, o_callV, o_ireti, o_iretz, o_lret, o_vret, jg, js, jkp, jkill, jsp, jcs, jfw, jov, Value.category, Option.toList_some, Option.toList_none, List.nil_append, List.cons_append, List.append_nil, Nat.reduceAdd, true_and, and_true, jb0, jb01, jb1, jem, true_or, or_true, Classical.not_not, forall_const, List.length_cons, List.length_nil, Nat.reduceLeDiff, Nat.zero_le, Nat.reduceLT, hX, kx_0_0 hX, kx_0_1 hX, kx_0_2 hX, kx_0_3 hX, kx_0_4 hX, kx_0_5 hX, kx_0_6 hX, kx_0_7 hX, kx_0_8 hX, kxo_0 hX, kx_1_0 hX, kx_1_1 hX, kx_1_2 hX, kx_1_3 hX, kxo_1 hX, kx_4_0 hX, kx_4_1 hX, kx_4_2 hX, kxo_4 hX, kx_19_0 hX, kx_19_1 hX, kx_19_2 hX, kx_19_3 hX, kx_19_4 hX, kxo_19 hX, kx_24_0 hX, kx_24_1 hX, kx_24_2 hX, kx_24_3 hX, kx_24_4 hX, kx_24_5 hX, kx_24_6 hX, kxo_24 hX, kxa_2 hX, kxa_3 hX, kxa_6 hX, kxa_7 hX, kxa_8 hX, kxa_9 hX, kxa_10 hX, kxa_18 hX, kxa_20 hX, kxa_21 hX, kxa_22 hX, kxa_23 hX, kxa_26 hX, kxa_27 hX, kxr_5 hX, kxr_11 hX, kxr_28 hX, T_X4_turnOf]
  have h2 := l1 t 0 (by omega)
  refine ⟨fun q => ?_, fun q => ?_⟩
  · rw [jb_neg (fun z => q z.1)] at h2
    exact h2
  · rw [jb_pos ⟨q, fun q3 h3 => by omega⟩] at h2
    exact h2
theorem m_X4_setFromTape (l : Launch) : jHolds vwCl l yX4_setFromTape wsX4_setFromTape 1 22 0 0 T_X4_setFromTape := by
  refine m_X4_setFromTape_of l (fun G Q vs K h H0 H18 H63 hT => ?_)
  unfold T_X4_setFromTape at hT
  split at hT
  · obtain ⟨rfl, hT⟩ := hT
    exact ⟨Nat.le_of_ble_eq_true rfl, v_X4_setFromTape hT H0 H18 H63⟩
  · exact hT.elim


