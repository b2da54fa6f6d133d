/-! ===== the reference's memory as a state of steps ===== -/
def cut6 (f : Nat → Int32) : Nat → Int32 := fun i => if i < 6 then f i else 0
theorem cut6_at (f : Nat → Int32) {i : Nat} (hi : i < 6) : cut6 f i = f i := if_pos hi
theorem cut6_upd (f : Nat → Int32) (v : Int32) {i : Nat} (hi : i < 6) : cut6 (upd f i v) = upd (cut6 f) i v := by
  funext j
  by_cases c : j = i
  · subst c; rw [upd_s, cut6_at _ hi, upd_s]
  · rw [upd_n c]
    unfold cut6
    by_cases hj : j < 6
    · rw [if_pos hj, if_pos hj, upd_n c]
    · rw [if_neg hj, if_neg hj]
def mS (h : jM) : aS := (h 38, cut6 (h 42), cut6 (h 43), cut6 (h 44))
def mQ (h : jM) : aQ := (h 37 0, h 37 1, fun r c => if r < 4 ∧ (c : Int) < (h 37 1).toInt then h 40 (12 * r + c) else 0, cut6 (h 45))
theorem m_T {h : jM} {r c : Int32} (hr : vp_in r 4) (hc : 0 ≤ c.toInt ∧ c.toInt < (h 37 1).toInt) : (mQ h).2.2.1 r.toNatClampNeg c.toNatClampNeg = h 40 (12 * r.toNatClampNeg + c.toNatClampNeg) :=
  if_pos ⟨vp_in_clamp hr, by rw [clamp_int hc.1]; exact hc.2⟩
theorem jdM_D {h : jM} (hk : h 37 0 = 0 ∨ h 37 0 = 1) : jdM h = nI (aDn (h 37 0)) := by
  unfold jdM aDn
  rcases hk with e | e
  · rw [e]; rfl
  · rw [e]; rfl
theorem in_cases {d : Int32} {D : Nat} (hd : vp_in d D) (hD : D ≤ 6) : ∃ j, j < D ∧ d = nI j := vp_in_of hd (by omega)
theorem dx_eq {kd d : Int32} (hk : kd = 0 ∨ kd = 1) (hd : vp_in d (aDn kd)) : mdx kd d = asX kd d ∧ mdy kd d = asY kd d := by
  obtain ⟨j, hj, rfl⟩ := in_cases hd (aDn_le kd).2
  rcases hk with rfl | rfl
  · have : j = 0 ∨ j = 1 ∨ j = 2 ∨ j = 3 := by
      have : aDn 0 = 4 := rfl
      omega
    rcases this with rfl | rfl | rfl | rfl <;> exact ⟨by decide, by decide⟩
  · have : j = 0 ∨ j = 1 ∨ j = 2 ∨ j = 3 ∨ j = 4 ∨ j = 5 := by
      have : aDn 1 = 6 := rfl
      omega
    rcases this with rfl | rfl | rfl | rfl | rfl | rfl <;> exact ⟨by decide, by decide⟩
theorem rem_turn {D : Nat} {d t : Int32} (hD0 : 0 < D) (hD : D ≤ 6) (h1 : vp_in d D) (h2 : 0 ≤ t.toInt ∧ t.toInt < (D : Int)) : (d + t) - (d + t) / nI D * nI D = jturn (nI D) (d + t) := by
  obtain ⟨a, ha, rfl⟩ := in_cases h1 hD
  rw [vp_in_iff] at h1
  obtain ⟨b, hb, rfl⟩ : ∃ j, j < D ∧ t = nI j := by
    obtain ⟨j, hj, e⟩ := jnat (x := t) (N := 6) h2.1 (by omega)
    refine ⟨j, ?_, e⟩
    rw [e, nI_toInt (by omega)] at h2
    omega
  rw [nI_add, jrem (by omega) hD0 (by omega)]
  unfold jturn
  rw [if_neg (nI_pos (by omega))]
  by_cases c : a + b < D
  · rw [if_pos ((nI_ltI (by omega) (by omega)).mpr c), Nat.mod_eq_of_lt c]
  · rw [if_neg (fun z => c ((nI_ltI (by omega) (by omega)).mp z))]
    apply Int32.toInt_inj.mp
    have e1 : (a + b) % D = a + b - D := by rw [Nat.mod_eq_sub_mod (by omega), Nat.mod_eq_of_lt (by omega)]
    rw [e1, nI_toInt (by omega), ti_sub (by rw [nI_toInt (by omega), nI_toInt (by omega)]; omega) (by rw [nI_toInt (by omega), nI_toInt (by omega)]; omega), nI_toInt (by omega), nI_toInt (by omega)]
    omega
theorem rem_back {D : Nat} {d t : Int32} (hD0 : 0 < D) (hD : D ≤ 6) (h1 : vp_in d D) (h2 : 0 ≤ t.toInt ∧ t.toInt < (D : Int)) : (d + nI D - t) - (d + nI D - t) / nI D * nI D = jturn (nI D) (d + -t) := by
  obtain ⟨a, ha, rfl⟩ := in_cases h1 hD
  obtain ⟨b, hb, rfl⟩ : ∃ j, j < D ∧ t = nI j := by
    obtain ⟨j, hj, e⟩ := jnat (x := t) (N := 6) h2.1 (by omega)
    refine ⟨j, ?_, e⟩
    rw [e, nI_toInt (by omega)] at h2
    omega
  have ea : (nI a).toInt = a := nI_toInt (by omega)
  have eb : (nI b).toInt = b := nI_toInt (by omega)
  have eD : (nI D).toInt = D := nI_toInt (by omega)
  have e1 : nI a + nI D - nI b = nI (a + D - b) := by
    rw [nI_add]
    apply Int32.toInt_inj.mp
    have e0 : (nI (a + D)).toInt = a + D := by rw [nI_toInt (by omega)]; omega
    rw [ti_sub (by rw [e0, eb]; omega) (by rw [e0, eb]; omega), e0, eb, nI_toInt (by omega)]
    omega
  rw [e1, jrem (by omega) hD0 (by omega)]
  have em : (-nI b).toInt = -(b : Int) := by rw [ti_neg (by rw [eb]; omega), eb]
  have es : (nI a + -nI b).toInt = (a : Int) - b := by rw [ti_add (by rw [ea, em]; omega) (by rw [ea, em]; omega), ea, em]; omega
  unfold jturn
  apply Int32.toInt_inj.mp
  by_cases c : a < b
  · rw [if_pos (by rw [Int32.lt_iff_toInt_lt, es]; show _ < (0 : Int); omega)]
    rw [ti_add (by rw [es, eD]; omega) (by rw [es, eD]; omega), es, eD, nI_toInt (by have := Nat.mod_lt (a + D - b) hD0; omega), Nat.mod_eq_of_lt (by omega)]
    omega
  · rw [if_neg (by rw [Int32.lt_iff_toInt_lt, es]; show ¬ _ < (0 : Int); omega)]
    rw [if_pos (by rw [Int32.lt_iff_toInt_lt, es, eD]; omega), es]
    have e2 : (a + D - b) % D = a - b := by
      rw [Nat.mod_eq_sub_mod (by omega), show a + D - b - D = a - b by omega, Nat.mod_eq_of_lt (by omega)]
    rw [e2, nI_toInt (by omega)]
    omega
theorem rem_col {n c : Int32} (hn : 2 ≤ n.toInt ∧ n.toInt ≤ 12) (hc : 0 ≤ c.toInt ∧ c.toInt < n.toInt) : (c + 1) - (c + 1) / n * n = if c + 1 < n then c + 1 else 0 := by
  obtain ⟨N, hN, rfl⟩ := jnat (x := n) (N := 12) (by omega) (by omega)
  rw [nI_toInt (by omega)] at hn hc
  obtain ⟨a, ha, rfl⟩ := jnat (x := c) (N := 12) (by omega) (by omega)
  rw [nI_toInt (by omega)] at hc
  rw [nI_1, jrem (by omega) (by omega) (by omega)]
  by_cases q : a + 1 < N
  · rw [if_pos ((nI_ltI (by omega) (by omega)).mpr q), Nat.mod_eq_of_lt q]
  · rw [if_neg (fun z => q ((nI_ltI (by omega) (by omega)).mp z))]
    have : a + 1 = N := by omega
    rw [this, Nat.mod_self]; rfl
theorem rem_colb {n c : Int32} (hn : 2 ≤ n.toInt ∧ n.toInt ≤ 12) (hc : 0 ≤ c.toInt ∧ c.toInt < n.toInt) : (c + n - 1) - (c + n - 1) / n * n = if c ≤ 0 then n - 1 else c - 1 := by
  obtain ⟨N, hN, rfl⟩ := jnat (x := n) (N := 12) (by omega) (by omega)
  rw [nI_toInt (by omega)] at hn hc
  obtain ⟨a, ha, rfl⟩ := jnat (x := c) (N := 12) (by omega) (by omega)
  rw [nI_toInt (by omega)] at hc
  have e1 : nI a + nI N - 1 = nI (a + N - 1) := by
    rw [nI_add, show a + N = (a + N - 1) + 1 by omega, nI_pred, show a + N - 1 + 1 - 1 = a + N - 1 by omega]
  rw [e1, jrem (by omega) (by omega) (by omega)]
  by_cases q : a = 0
  · subst q
    rw [if_pos (by decide)]
    rw [show 0 + N - 1 = N - 1 by omega, Nat.mod_eq_of_lt (by omega)]
    obtain ⟨M, rfl⟩ : ∃ M, N = M + 1 := ⟨N - 1, by omega⟩
    rw [nI_pred, Nat.add_sub_cancel]
  · rw [if_neg (fun z => q (by
      have : (nI a).toInt ≤ (0 : Int) := by rw [Int32.le_iff_toInt_le] at z; exact z
      rw [nI_toInt (by omega)] at this
      omega))]
    obtain ⟨b, rfl⟩ : ∃ b, a = b + 1 := ⟨a - 1, by omega⟩
    rw [nI_pred]
    have e2 : (b + 1 + N - 1) % N = b := by
      rw [Nat.mod_eq_sub_mod (by omega), show b + 1 + N - 1 - N = b by omega, Nat.mod_eq_of_lt (by omega)]
    rw [e2]
/-- the memory behind the reference's act -/
noncomputable def mActM (h : jM) (A : Nat) : jM := up2 (up2 (up2 (up2 (up2 h 46 A (nI (aP (mS h) A))) 44 A (aDr (mQ h) (mS h) A)) 38 (aP (mS h) A) (if aC (mS h) A + 1 < h 37 1 then aC (mS h) A + 1 else 0)) 42 A (aXn (mQ h) (mS h) A)) 43 A (aYn (mQ h) (mS h) A)
noncomputable def mBackM (h : jM) (A : Nat) : jM := up2 (up2 (up2 (up2 (up2 h 46 A (nI (aBP (mQ h) (mS h) A))) 38 (aBP (mQ h) (mS h) A) (aBC (mQ h) (mS h) A)) 42 A (aBX (mQ h) (mS h) A)) 43 A (aBY (mQ h) (mS h) A)) 44 A (aBD (mQ h) (mS h) A)
theorem mS_act (h : jM) {A : Nat} (hA : A < 6) : mS (mActM h A) = aAct (mQ h) (mS h) A := by
  unfold mS
  have e38 : mActM h A 38 = upd (h 38) (aP (mS h) A) (if aC (mS h) A + 1 < h 37 1 then aC (mS h) A + 1 else 0) := by
    unfold mActM; rw [up2_n (by decide), up2_n (by decide), up2_s, up2_n (by decide), up2_n (by decide)]
  have e42 : mActM h A 42 = upd (h 42) A (aXn (mQ h) (mS h) A) := by
    unfold mActM; rw [up2_n (by decide), up2_s, up2_n (by decide), up2_n (by decide), up2_n (by decide)]
  have e43 : mActM h A 43 = upd (h 43) A (aYn (mQ h) (mS h) A) := by
    unfold mActM; rw [up2_s, up2_n (by decide), up2_n (by decide), up2_n (by decide), up2_n (by decide)]
  have e44 : mActM h A 44 = upd (h 44) A (aDr (mQ h) (mS h) A) := by
    unfold mActM; rw [up2_n (by decide), up2_n (by decide), up2_n (by decide), up2_s, up2_n (by decide)]
  rw [e38, e42, e43, e44, cut6_upd _ _ hA, cut6_upd _ _ hA, cut6_upd _ _ hA]
  rfl
theorem mAct_o (h : jM) {A c : Nat} (hc : ¬ c = 38 ∧ ¬ c = 42 ∧ ¬ c = 43 ∧ ¬ c = 44 ∧ ¬ c = 46) : mActM h A c = h c := by
  unfold mActM
  rw [up2_n hc.2.2.1, up2_n hc.2.1, up2_n hc.1, up2_n hc.2.2.2.1, up2_n hc.2.2.2.2]
theorem mQ_of {g h : jM} (h1 : g 37 = h 37) (h2 : g 40 = h 40) (h3 : g 45 = h 45) : mQ g = mQ h := by
  unfold mQ; rw [h1, h2, h3]
theorem mQ_act (h : jM) (A : Nat) : mQ (mActM h A) = mQ h := mQ_of (mAct_o h (by decide)) (mAct_o h (by decide)) (mAct_o h (by decide))
theorem mAct_46 (h : jM) (A : Nat) : mActM h A 46 = upd (h 46) A (nI (aP (mS h) A)) := by
  unfold mActM
  rw [up2_n (by decide), up2_n (by decide), up2_n (by decide), up2_n (by decide), up2_s]
theorem mS_back (h : jM) {A : Nat} (hA : A < 6) : mS (mBackM h A) = aBack (mQ h) (mS h) A := by
  unfold mS
  have e38 : mBackM h A 38 = upd (h 38) (aBP (mQ h) (mS h) A) (aBC (mQ h) (mS h) A) := by
    unfold mBackM; rw [up2_n (by decide), up2_n (by decide), up2_n (by decide), up2_s, up2_n (by decide)]
  have e42 : mBackM h A 42 = upd (h 42) A (aBX (mQ h) (mS h) A) := by
    unfold mBackM; rw [up2_n (by decide), up2_n (by decide), up2_s, up2_n (by decide), up2_n (by decide)]
  have e43 : mBackM h A 43 = upd (h 43) A (aBY (mQ h) (mS h) A) := by
    unfold mBackM; rw [up2_n (by decide), up2_s, up2_n (by decide), up2_n (by decide), up2_n (by decide)]
  have e44 : mBackM h A 44 = upd (h 44) A (aBD (mQ h) (mS h) A) := by
    unfold mBackM; rw [up2_s, up2_n (by decide), up2_n (by decide), up2_n (by decide), up2_n (by decide)]
  rw [e38, e42, e43, e44, cut6_upd _ _ hA, cut6_upd _ _ hA, cut6_upd _ _ hA]
  rfl
theorem mBack_o (h : jM) {A c : Nat} (hc : ¬ c = 38 ∧ ¬ c = 42 ∧ ¬ c = 43 ∧ ¬ c = 44 ∧ ¬ c = 46) : mBackM h A c = h c := by
  unfold mBackM
  rw [up2_n hc.2.2.2.1, up2_n hc.2.2.1, up2_n hc.2.1, up2_n hc.1, up2_n hc.2.2.2.2]
theorem mQ_back (h : jM) (A : Nat) : mQ (mBackM h A) = mQ h := mQ_of (mBack_o h (by decide)) (mBack_o h (by decide)) (mBack_o h (by decide))
theorem mBack_46 (h : jM) (A : Nat) : mBackM h A 46 = upd (h 46) A (nI (aBP (mQ h) (mS h) A)) := by
  unfold mBackM
  rw [up2_n (by decide), up2_n (by decide), up2_n (by decide), up2_n (by decide), up2_s]
