/-! ===== paint, ant, type: coupled ===== -/
theorem ev_vS2 (h : jM) (k : Nat) (v : Int32) : vS (up2 h 2 k v) = (upd (h 2) k v, (vS h).2) := by
  unfold vS
  rw [up2_s, vX_up2 0 (by decide), vX_up2 1 (by decide), vX_up2 2 (by decide)]
theorem ev_mS38 (h : jM) (k : Nat) (v : Int32) : mS (up2 h 38 k v) = (upd (h 38) k v, (mS h).2) := by
  unfold mS
  rw [up2_s, up2_n (by decide), up2_n (by decide), up2_n (by decide)]
theorem aVal_col {q : aQ} {s : aS} {m : Nat} {f : Nat → Int32} (h : aVal q s m) (hf : ∀ i, i < 57600 → 0 ≤ (f i).toInt ∧ (f i).toInt < q.2.1.toInt) : aVal q (f, s.2) m := ⟨⟨h.1.1, hf, h.1.2.2⟩, h.2⟩
theorem le_m1 {x n : Int32} (h : 0 ≤ x ∧ x ≤ n - 1) (hn : 2 ≤ n.toInt ∧ n.toInt ≤ 12) : 0 ≤ x.toInt ∧ x.toInt < n.toInt := by
  have t1 : (1 : Int32).toInt = 1 := rfl
  have e2 : (n - 1).toInt = n.toInt - 1 := by rw [ti_sub (by rw [t1]; omega) (by rw [t1]; omega), t1]
  have a1 : (0 : Int) ≤ x.toInt := le_of_lit h.1
  have a2 := le_of_lit h.2
  omega
theorem cp_paint {k : Nat} {h : jM} {K : List jK} (c : CP k h) (hM : jXM K) (x y v : Int32) : cpl k K h T_X6_paint T_X7_paint [.ref 0, .int x, .int y, .int v] [.ref 37, .int x, .int y, .int v] := by
  intro Q hQ
  obtain ⟨cnt, hc6, e0, e8, hv⟩ := c.2.1
  obtain ⟨ek0, ek1⟩ := CP_kind c
  have e38 := CP_col c
  show _ ∧ _
  refine ⟨rfl, jXM_X hM, fun n => hQ _ _ (fun Q2 h2 => ?_), fun yy => hQ _ _ (fun Q2 h2 => ?_)⟩
  · show _ ∧ _
    rw [ek1]
    exact ⟨rfl, hM, fun _ => h2 _ (CP_mono c), fun y => absurd y n⟩
  · show _ ∧ _
    have e1 : up2 (up2 h 2 (jpl x y).toNatClampNeg v) 24 1 1 37 1 = h 1 1 := by rw [up2_n (by decide), up2_n (by decide)]; exact ek1
    rw [e1]
    refine ⟨rfl, hM, fun n => absurd yy n, fun _ => ?_⟩
    have e2 : up2 (up2 h 2 (jpl x y).toNatClampNeg v) 24 1 1 38 (jpl x y).toNatClampNeg = h 2 (jpl x y).toNatClampNeg := by rw [up2_n (by decide), up2_n (by decide), e38]
    rw [e2]
    refine h2 _ ?_
    have hp := vp_in_clamp (jpl_in yy.1)
    generalize (jpl x y).toNatClampNeg = p at hp ⊢
    unfold CP CPR
    simp only [up2_s, up2_n, upr_s, upr_n, upd_s, upd_n, ev_vS, ev_vSr, ev_vQ, ev_vQr, ev_mS, ev_mSr, ev_mQ, ev_mQr, ev_mQ7, ev_vL, ev_vN, ev_vI, ev_vLr, ev_vNr, ev_vIr, Nat.reduceEqDiff, Nat.reduceLeDiff, Nat.reduceLT, not_false_eq_true, and_false, false_and, and_self, and_true, true_and, reduceCtorEq, Nat.zero_ne_one, Nat.one_ne_zero, not_true_eq_false, ev_vS2, ev_mS38]
    have hb := le_m1 yy.2 hv.1.1
    refine ⟨⟨?_, c.1.2.1, c.1.2.2⟩, ⟨cnt, hc6, e0, e8, aVal_col hv (fun i hi => ?_)⟩, c.2.2.1, c.2.2.2.1, c.2.2.2.2.1, pE_mono c.2.2.2.2.2.1, ⟨c.2.2.2.2.2.2.1.1, ⟨fun z => absurd z (by decide), fun z => absurd z.1 (by decide)⟩, c.2.2.2.2.2.2.1.2.2⟩, c.2.2.2.2.2.2.2⟩
    · rw [e38, c.1.1]
    · by_cases hi2 : i = p
      · subst hi2
        rw [upd_s]
        exact hb
      · rw [upd_n hi2]
        exact hv.1.2.1 i hi
theorem upAnt_lit {h : jM} {i : Nat} (hi : i < 6) {x y d r : Int32} {b : Nat} (hb : ¬ (12 ≤ b ∧ b < 18)) : upAnt h (12 + i) x y d r b = h b := upAnt_n (by omega)
theorem ev_vSa (h : jM) {i : Nat} (hi : i < 6) (x y d r : Int32) : vS (upAnt h (12 + i) x y d r) = ((vS h).1, upd (vS h).2.1 i x, upd (vS h).2.2.1 i y, upd (vS h).2.2.2 i d) := by
  unfold vS
  rw [upAnt_lit hi (by decide), vX_upAnt _ _ _ _ _ _ hi, vX_upAnt _ _ _ _ _ _ hi, vX_upAnt _ _ _ _ _ _ hi]
  rfl
theorem ev_vQa (h : jM) {i : Nat} (hi : i < 6) (x y d r : Int32) : vQ (upAnt h (12 + i) x y d r) = ((vQ h).1, (vQ h).2.1, (vQ h).2.2.1, upd (vQ h).2.2.2 i r) := by
  unfold vQ
  rw [upAnt_lit hi (by decide), vX_upAnt _ _ _ _ _ _ hi]
  have e2 : (fun r' c : Nat => if r' < 4 ∧ (c : Int) < (h 1 1).toInt then upAnt h (12 + i) x y d r (6 + r') c else 0) = (fun r' c : Nat => if r' < 4 ∧ (c : Int) < (h 1 1).toInt then h (6 + r') c else 0) := by
    funext r' c
    by_cases q : r' < 4 ∧ (c : Int) < (h 1 1).toInt
    · rw [if_pos q, if_pos q, upAnt_lit hi (by omega)]
    · rw [if_neg q, if_neg q]
  rw [e2]
  rfl
theorem ev_vLa {h : jM} {i : Nat} (hi : i < 6) (x y d r : Int32) : vL2 (upAnt h (12 + i) x y d r) = vL2 h ∧ vN2 (upAnt h (12 + i) x y d r) = vN2 h ∧ vI2 (upAnt h (12 + i) x y d r) = vI2 h := ev_of (fun a ha => upAnt_lit hi (by omega))
theorem ev_mS42 (h : jM) {i : Nat} (hi : i < 6) (v : Int32) : mS (up2 h 42 i v) = ((mS h).1, upd (mS h).2.1 i v, (mS h).2.2.1, (mS h).2.2.2) := by
  unfold mS
  rw [up2_n (by decide), up2_s, up2_n (by decide), up2_n (by decide), cut6_upd _ _ hi]
theorem ev_mS43 (h : jM) {i : Nat} (hi : i < 6) (v : Int32) : mS (up2 h 43 i v) = ((mS h).1, (mS h).2.1, upd (mS h).2.2.1 i v, (mS h).2.2.2) := by
  unfold mS
  rw [up2_n (by decide), up2_n (by decide), up2_s, up2_n (by decide), cut6_upd _ _ hi]
theorem ev_mS44 (h : jM) {i : Nat} (hi : i < 6) (v : Int32) : mS (up2 h 44 i v) = ((mS h).1, (mS h).2.1, (mS h).2.2.1, upd (mS h).2.2.2 i v) := by
  unfold mS
  rw [up2_n (by decide), up2_n (by decide), up2_n (by decide), up2_s, cut6_upd _ _ hi]
theorem ev_mQ45 (h : jM) {i : Nat} (hi : i < 6) (v : Int32) : mQ (up2 h 45 i v) = ((mQ h).1, (mQ h).2.1, (mQ h).2.2.1, upd (mQ h).2.2.2 i v) := by
  unfold mQ
  rw [up2_n (by decide), up2_n (by decide), up2_s, cut6_upd _ _ hi]
theorem ev_mSa (h : jM) {i : Nat} (hi : i < 6) (x y d r : Int32) : mS (upAnt h (12 + i) x y d r) = mS h := mS_of2 (upAnt_lit hi (by decide)) (upAnt_lit hi (by decide)) (upAnt_lit hi (by decide)) (upAnt_lit hi (by decide))
theorem ev_mQa (h : jM) {i : Nat} (hi : i < 6) (x y d r : Int32) : mQ (upAnt h (12 + i) x y d r) = mQ h := mQ_of2 (by rw [upAnt_lit hi (by decide)]) (by rw [upAnt_lit hi (by decide)]) (upAnt_lit hi (by decide)) (upAnt_lit hi (by decide))
theorem cp_ant {k : Nat} {h : jM} {K : List jK} (c : CP k h) (hM : jXM K) (x y d r : Int32) : cpl k K h T_X6_ant T_X7_ant [.ref 0, .int x, .int y, .int d, .int r] [.ref 37, .int x, .int y, .int d, .int r] := by
  intro Q hQ
  obtain ⟨cnt, hc6, e0, e8, hv⟩ := c.2.1
  obtain ⟨ed, eD⟩ := CP_dirs c
  have b0 : 0 ≤ (nI cnt).toInt ∧ (nI cnt).toInt ≤ 6 := by rw [nI_toInt (by omega)]; omega
  show _ ∧ _
  refine ⟨rfl, jXM_X hM, by rw [e0]; exact b0, fun n => hQ _ _ (fun Q2 h2 => ?_), fun yy => ⟨fun z => hQ _ _ (fun Q2 h2 => ?_), fun z => hQ _ _ (fun Q2 h2 => ?_)⟩⟩
  · show _ ∧ _
    rw [ed, e8]
    exact ⟨rfl, hM, b0, fun _ => h2 _ (CP_mono c), fun y => absurd y n⟩
  · show _ ∧ _
    rw [ed, e8]
    have e6 : nI cnt = 6 := by
      rw [e0, show (6 : Int32) = nI 6 from rfl, nI_leI (by decide) (by omega)] at z
      rw [show (6 : Int32) = nI 6 from rfl, show cnt = 6 by omega]
    exact ⟨rfl, hM, b0, fun n => absurd yy n, fun _ => ⟨fun _ => h2 _ (CP_mono c), fun n => absurd e6 n⟩⟩
  · have hlt : cnt < 6 := by
      rw [e0, show (6 : Int32) = nI 6 from rfl, nI_leI (by decide) (by omega)] at z
      omega
    rw [e0, nI_clamp (show cnt < 2147483648 by omega), nI_1]
    rw [e0, nI_1] at h2
    have f8 : up2 (up2 (upAnt h (12 + cnt) x y d r) 0 7 (nI (cnt + 1))) 24 1 1 37 = h 37 := by rw [up2_n (by decide), up2_n (by decide), upAnt_lit hlt (by decide)]
    have fd : jdM (up2 (up2 (upAnt h (12 + cnt) x y d r) 0 7 (nI (cnt + 1))) 24 1 1) = jdirs h := by
      rw [← ed]
      unfold jdM
      rw [f8]
    show _ ∧ _
    rw [fd, f8, e8]
    refine ⟨rfl, hM, b0, fun n => absurd yy n, fun _ => ⟨fun q => absurd ((nI_eq (by omega) (by decide)).mp (show nI cnt = nI 6 from q)) (by omega), fun _ => ?_⟩⟩
    rw [nI_clamp (by omega), nI_1]
    refine h2 _ ?_
    obtain ⟨l1, l2, l3⟩ := ev_vLa (h := h) hlt x y d r
    unfold CP CPR
    simp only [up2_s, up2_n, upr_s, upr_n, upd_s, upd_n, ev_vS, ev_vSr, ev_vQ, ev_vQr, ev_mS, ev_mSr, ev_mQ, ev_mQr, ev_mQ7, ev_vL, ev_vN, ev_vI, ev_vLr, ev_vNr, ev_vIr, Nat.reduceEqDiff, Nat.reduceLeDiff, Nat.reduceLT, not_false_eq_true, and_false, false_and, and_self, and_true, true_and, reduceCtorEq, Nat.zero_ne_one, Nat.one_ne_zero, not_true_eq_false, ev_mSa h hlt, ev_mQa h hlt, ev_vSa h hlt, ev_vQa h hlt, l1, l2, l3, ev_mS42 _ hlt, ev_mS43 _ hlt, ev_mS44 _ hlt, ev_mQ45 _ hlt, upAnt_lit hlt]
    have hd : vp_in d (aDn (h 1 0)) := by
      have h9 := yy.2.1
      rw [eD] at h9
      have e9 := idx_lt h9 (by have := (aDn_le (h 1 0)).2; omega)
      have a1 : (0 : Int) ≤ d.toInt := le_of_lit h9.1
      have := clamp_int a1
      exact vp_in_iff.mpr ⟨a1, by omega⟩
    have hr : vp_in r 4 := by
      have h9 := yy.2.2
      have a1 : (0 : Int) ≤ r.toInt := le_of_lit h9.1
      have a2 : r.toInt ≤ (3 : Int) := le_of_lit h9.2
      exact vp_in_iff.mpr ⟨a1, by omega⟩
    refine ⟨⟨?_, ?_, c.1.2.2⟩, ⟨cnt + 1, by omega, rfl, rfl, hv.1, fun i hi => ?_⟩, c.2.2.1, c.2.2.2.1, c.2.2.2.2.1, pE_mono c.2.2.2.2.2.1, ⟨c.2.2.2.2.2.2.1.1, ⟨fun z => absurd z (by decide), fun z => absurd z.1 (by decide)⟩, c.2.2.2.2.2.2.1.2.2⟩, c.2.2.2.2.2.2.2.1, ?_⟩
    · rw [c.1.1]
    · rw [c.1.2.1]
    · unfold aAn
      by_cases hi2 : i = cnt
      · subst hi2
        show onF (upd _ i x i) (upd _ i y i) ∧ vp_in (upd _ i d i) _ ∧ vp_in (upd _ i r i) 4
        rw [upd_s, upd_s, upd_s, upd_s]
        exact ⟨yy.1, hd, hr⟩
      · show onF (upd _ cnt x i) (upd _ cnt y i) ∧ vp_in (upd _ cnt d i) _ ∧ vp_in (upd _ cnt r i) 4
        rw [upd_n hi2, upd_n hi2, upd_n hi2, upd_n hi2]
        exact hv.2 i (by omega)
    · by_cases h0 : cnt = 0
      · subst h0
        rw [upAnt_s]
        exact yy.1
      · rw [upAnt_n (by omega)]
        exact c.2.2.2.2.2.2.2.2
/-! type -/
theorem by_bit (x : BitVec 64) (s : Nat) (hs : s ≤ 56) : ((x >>> s).signExtend 32 &&& 255#32) = (x.sshiftRight s &&& 255#64).signExtend 32 := by
  have b1 : ∀ i, i < 32 → (255#32).getLsbD i = decide (i < 8) := by decide
  have b2 : ∀ i, i < 32 → (255#64).getLsbD i = decide (i < 8) := by decide
  apply BitVec.eq_of_getLsbD_eq
  intro i hi
  simp only [BitVec.getLsbD_and, BitVec.getLsbD_signExtend, BitVec.getLsbD_ushiftRight, BitVec.getLsbD_sshiftRight, b1 i hi, b2 i hi]
  by_cases h8 : i < 8
  · have h1 : s + i < 64 := by omega
    have h2 : ¬ 64 ≤ i := by omega
    have h3 : i < 64 := by omega
    simp [h8, hi, h1, h2, h3, b2 i hi]
  · have h3 : i < 64 := by omega
    simp [h8, h3, hi, b2 i hi]
theorem jby_eq (w : Int64) {k : Nat} (hk : k < 8) : jbyC w k = jbyM w k := by
  have : k = 0 ∨ k = 1 ∨ k = 2 ∨ k = 3 ∨ k = 4 ∨ k = 5 ∨ k = 6 ∨ k = 7 := by omega
  unfold jbyC jbyM
  apply Int32.toBitVec_inj.mp
  rcases this with rfl | rfl | rfl | rfl | rfl | rfl | rfl | rfl
  · have s1 : ((8 * nI 0).toInt64.toUInt64 &&& Int64.toUInt64 63) = 0 := by decide
    have s2 : ((8 * nI 0).toInt64 &&& 63) = 0 := by decide
    rw [s1, s2]
    exact by_bit w.toBitVec 0 (by decide)
  · have s1 : ((8 * nI 1).toInt64.toUInt64 &&& Int64.toUInt64 63) = 8 := by decide
    have s2 : ((8 * nI 1).toInt64 &&& 63) = 8 := by decide
    rw [s1, s2]
    exact by_bit w.toBitVec 8 (by decide)
  · have s1 : ((8 * nI 2).toInt64.toUInt64 &&& Int64.toUInt64 63) = 16 := by decide
    have s2 : ((8 * nI 2).toInt64 &&& 63) = 16 := by decide
    rw [s1, s2]
    exact by_bit w.toBitVec 16 (by decide)
  · have s1 : ((8 * nI 3).toInt64.toUInt64 &&& Int64.toUInt64 63) = 24 := by decide
    have s2 : ((8 * nI 3).toInt64 &&& 63) = 24 := by decide
    rw [s1, s2]
    exact by_bit w.toBitVec 24 (by decide)
  · have s1 : ((8 * nI 4).toInt64.toUInt64 &&& Int64.toUInt64 63) = 32 := by decide
    have s2 : ((8 * nI 4).toInt64 &&& 63) = 32 := by decide
    rw [s1, s2]
    exact by_bit w.toBitVec 32 (by decide)
  · have s1 : ((8 * nI 5).toInt64.toUInt64 &&& Int64.toUInt64 63) = 40 := by decide
    have s2 : ((8 * nI 5).toInt64 &&& 63) = 40 := by decide
    rw [s1, s2]
    exact by_bit w.toBitVec 40 (by decide)
  · have s1 : ((8 * nI 6).toInt64.toUInt64 &&& Int64.toUInt64 63) = 48 := by decide
    have s2 : ((8 * nI 6).toInt64 &&& 63) = 48 := by decide
    rw [s1, s2]
    exact by_bit w.toBitVec 48 (by decide)
  · have s1 : ((8 * nI 7).toInt64.toUInt64 &&& Int64.toUInt64 63) = 56 := by decide
    have s2 : ((8 * nI 7).toInt64 &&& 63) = 56 := by decide
    rw [s1, s2]
    exact by_bit w.toBitVec 56 (by decide)
/-- only the tape is touched -/
theorem CP_tape {k : Nat} {h g : jM} (c : CP k h) (ho : ∀ a, ¬ a = 4 → ¬ a = 10 → ¬ a = 37 → ¬ a = 41 → g a = h a) (h7 : ∀ i, ¬ i = 7 → g 37 i = h 37 i) (hT : pT (g 4 2) (g 10) (g 37 7) (g 41)) : CP (k + 1) g := by
  have e1 : vS g = vS h := vS_of (ho 2 (by decide) (by decide) (by decide) (by decide)) (fun a ha => ho a (by omega) (by omega) (by omega) (by omega))
  have e2 : vQ g = vQ h := vQ_of (ho 1 (by decide) (by decide) (by decide) (by decide)) (fun a ha => ho a (by omega) (by omega) (by omega) (by omega)) (fun a ha => ho a (by omega) (by omega) (by omega) (by omega))
  have e3 : mS g = mS h := mS_of2 (ho 38 (by decide) (by decide) (by decide) (by decide)) (ho 42 (by decide) (by decide) (by decide) (by decide)) (ho 43 (by decide) (by decide) (by decide) (by decide)) (ho 44 (by decide) (by decide) (by decide) (by decide))
  have e4 : mQ g = mQ h := mQ_of2 (h7 0 (by decide)) (h7 1 (by decide)) (ho 40 (by decide) (by decide) (by decide) (by decide)) (ho 45 (by decide) (by decide) (by decide) (by decide))
  obtain ⟨e5, e6, e7⟩ := ev_of (g := g) (h := h) (fun a ha => ho a (by omega) (by omega) (by omega) (by omega))
  unfold CP CPR
  have o := fun a (q : (¬ a = 4 ∧ ¬ a = 10) ∧ (¬ a = 37 ∧ ¬ a = 41)) => ho a q.1.1 q.1.2 q.2.1 q.2.2
  rw [e1, e2, e3, e4, e5, e6, e7, o 3 (by decide), o 0 (by decide), o 1 (by decide), o 19 (by decide), o 20 (by decide), o 21 (by decide), o 22 (by decide), o 23 (by decide), o 24 (by decide), o 25 (by decide), o 26 (by decide), o 27 (by decide), o 12 (by decide), o 39 (by decide), o 47 (by decide), o 48 (by decide), o 49 (by decide), o 50 (by decide), o 51 (by decide), o 52 (by decide), o 53 (by decide), o 54 (by decide), o 55 (by decide), h7 8 (by decide), h7 4 (by decide), h7 14 (by decide), h7 19 (by decide), h7 20 (by decide), h7 21 (by decide), h7 24 (by decide), h7 25 (by decide), h7 26 (by decide), h7 27 (by decide), h7 28 (by decide)]
  exact ⟨c.1, c.2.1, c.2.2.1, c.2.2.2.1, hT, pE_mono c.2.2.2.2.2.1, c.2.2.2.2.2.2⟩
theorem cp_type {k : Nat} {h : jM} {K : List jK} (c : CP k h) (hM : jXM K) (w : Int64) (n : Int32) : cpl k K h T_X6_type T_X7_type [.ref 0, .long w, .int n] [.ref 37, .long w, .int n] := by
  intro Q hQ
  obtain ⟨e7, bT, e41⟩ := c.2.2.2.2.1
  show _ ∧ _
  refine ⟨rfl, jXM_X hM, bT, fun z => hQ _ _ (fun Q2 h2 => ?_), fun y z => hQ _ _ (fun Q2 h2 => ?_), fun y z => hQ _ _ (fun Q2 h2 => ?_)⟩
  · show _ ∧ _
    rw [e7]
    exact ⟨rfl, hM, bT, fun _ => h2 _ (CP_mono c), fun y => absurd y z, fun y => absurd y z⟩
  · show _ ∧ _
    rw [e7]
    exact ⟨rfl, hM, bT, fun q => absurd y q, fun _ _ => h2 _ (CP_mono c), fun _ q => absurd q z⟩
  · have f7 : jtb h w n.toInt.toNat (h 4 2).toInt.toNat 0 37 = h 37 := by
      funext i
      show (if 37 = 10 ∧ _ then _ else if 37 = 4 ∧ _ then _ else h 37 i) = _
      rw [if_neg (fun q => absurd q.1 (by decide)), if_neg (fun q => absurd q.1 (by decide))]
    show _ ∧ _
    rw [f7, e7]
    refine ⟨rfl, hM, bT, fun q => absurd y q, fun _ q => absurd z q, fun _ _ => ?_⟩
    refine h2 _ ?_
    have n1 : (1 : Int) ≤ n.toInt := le_of_lit y.1
    have n8 : n.toInt ≤ (8 : Int) := le_of_lit y.2
    have hz : (h 4 2 + n).toInt ≤ (12 : Int) := le_of_lit z
    have es : (h 4 2 + n).toInt = (h 4 2).toInt + n.toInt := ti_add (by omega) (by omega)
    obtain ⟨m, hm⟩ : ∃ m, m = n.toInt.toNat := ⟨_, rfl⟩
    obtain ⟨t, ht⟩ : ∃ t, t = (h 4 2).toInt.toNat := ⟨_, rfl⟩
    have hmt : t + m ≤ 12 := by omega
    have hm8 : m ≤ 8 := by omega
    rw [← hm, ← ht]
    clear hm ht h2 hQ es hz n1 n8
    refine CP_tape c (fun a a1 a2 a3 a4 => ?_) (fun i hi => ?_) ?_
    · funext i
      show (if a = 41 ∧ _ then _ else if a = 37 ∧ i = 7 then _ else if a = 10 ∧ _ then _ else if a = 4 ∧ i = 2 then _ else h a i) = _
      rw [if_neg (fun q => a4 q.1), if_neg (fun q => a3 q.1), if_neg (fun q => a2 q.1), if_neg (fun q => a1 q.1)]
    · show (if 37 = 41 ∧ _ then _ else if 37 = 37 ∧ i = 7 then _ else if 37 = 10 ∧ _ then _ else if 37 = 4 ∧ i = 2 then _ else h 37 i) = _
      rw [if_neg (fun q => absurd q.1 (by decide)), if_neg (fun q => hi q.2), if_neg (fun q => absurd q.1 (by decide)), if_neg (fun q => absurd q.1 (by decide))]
    · have g4 : jtbM (jtb h w m t 0) w m t 0 4 2 = nI (t + m) := by
        show (if 4 = 41 ∧ _ then _ else if 4 = 37 ∧ 2 = 7 then _ else if 4 = 10 ∧ _ then _ else if 4 = 4 ∧ 2 = 2 then nI (t + (m - 0)) else h 4 2) = _
        rw [if_neg (fun q => absurd q.1 (by decide)), if_neg (fun q => absurd q.1 (by decide)), if_neg (fun q => absurd q.1 (by decide)), if_pos ⟨rfl, rfl⟩]
        rfl
      have g37 : jtbM (jtb h w m t 0) w m t 0 37 7 = nI (t + m) := by
        show (if 37 = 41 ∧ _ then _ else if 37 = 37 ∧ 7 = 7 then nI (t + (m - 0)) else _) = _
        rw [if_neg (fun q => absurd q.1 (by decide)), if_pos ⟨rfl, rfl⟩]
        rfl
      refine ⟨by rw [g4, g37], by rw [g4, nI_toInt (by omega)]; omega, ?_⟩
      funext i
      have l1 : jtbM (jtb h w m t 0) w m t 0 41 i = if t ≤ i ∧ i < t + m then jbyM w (m - 1 - (i - t)) else h 41 i := by
        show (if 41 = 41 ∧ t ≤ i ∧ i < t + (m - 0) then _ else if 41 = 37 ∧ i = 7 then _ else if 41 = 10 ∧ _ then _ else if 41 = 4 ∧ i = 2 then _ else h 41 i) = _
        by_cases q : t ≤ i ∧ i < t + m
        · rw [if_pos ⟨rfl, q⟩, if_pos q]
        · rw [if_neg (fun z => q z.2), if_neg q, if_neg (fun q => absurd q.1 (by decide)), if_neg (fun q => absurd q.1 (by decide)), if_neg (fun q => absurd q.1 (by decide))]
      have l2 : jtbM (jtb h w m t 0) w m t 0 10 i = if t ≤ i ∧ i < t + m then jbyC w (m - 1 - (i - t)) else h 10 i := by
        show (if 10 = 41 ∧ _ then _ else if 10 = 37 ∧ i = 7 then _ else if 10 = 10 ∧ t ≤ i ∧ i < t + (m - 0) then _ else if 10 = 4 ∧ i = 2 then _ else h 10 i) = _
        rw [if_neg (fun q => absurd q.1 (by decide)), if_neg (fun q => absurd q.1 (by decide))]
        by_cases q : t ≤ i ∧ i < t + m
        · rw [if_pos ⟨rfl, q⟩, if_pos q]
        · rw [if_neg (fun z => q z.2), if_neg q, if_neg (fun q => absurd q.1 (by decide))]
      rw [l1, l2, e41]
      by_cases q : t ≤ i ∧ i < t + m
      · rw [if_pos q, if_pos q, jby_eq w (by omega)]
      · rw [if_neg q, if_neg q]
