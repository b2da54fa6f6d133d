/-! ===== calls that change little: the class's answer is the reference's, and the coupling stays ===== -/
/-- the class answers v, the reference then answers v too, and the coupling holds behind both -/
def cpl (k : Nat) (K : List jK) (h : jM) (TC TM : jT) (ac am : List Value) : Prop := ∀ Q : jPost, (∀ (v : Value) (h1 : jM), (∀ Q2 : jPost, (∀ g, CP (k + 1) g → Q2 (some v) K g) → TM am K h1 Q2) → Q (some v) K h1) → TC ac K h Q
theorem aVal_le {q : aQ} {s : aS} {m n : Nat} (h : aVal q s m) (hn : n ≤ m) : aVal q s n := ⟨h.1, fun i hi => h.2 i (by omega)⟩
theorem nI_le0 {n : Nat} (h : n < 2147483648) : nI n ≤ 0 ↔ n = 0 := by
  rw [show (0 : Int32) = nI 0 from rfl, nI_leI h (by decide)]
  omega
theorem nI_eq0 {n : Nat} (h : n < 2147483648) : nI n = 0 ↔ n = 0 := by
  rw [show (0 : Int32) = nI 0 from rfl, nI_eq h (by decide)]
theorem idx_lt {a : Int32} {n : Nat} (h : 0 ≤ a ∧ a ≤ nI n - 1) (hn : n < 2147483648) : a.toNatClampNeg < n := by
  have e1 : (nI n).toInt = (n : Int) := nI_toInt hn
  have e2 : (nI n - 1).toInt = (n : Int) - 1 := by
    have : (1 : Int32).toInt = 1 := rfl
    rw [ti_sub (by rw [e1, this]; omega) (by rw [e1, this]; omega), e1, this]
  have a1 : (0 : Int) ≤ a.toInt := le_of_lit h.1
  have a2 : a.toInt ≤ (n : Int) - 1 := by have := le_of_lit h.2; omega
  have := clamp_int a1
  omega
theorem cp_time {k : Nat} {h : jM} {K : List jK} (c : CP k h) (hM : jXM K) : cpl k K h T_X6_time T_X7_time [.ref 0] [.ref 37] := by
  intro Q hQ
  show _ ∧ _
  refine ⟨rfl, jXM_X hM, hQ _ _ (fun Q2 h2 => ?_)⟩
  show _ ∧ _
  refine ⟨rfl, hM, ?_⟩
  rw [c.2.2.2.1]
  exact h2 _ (CP_mono c)
theorem cp_colour {k : Nat} {h : jM} {K : List jK} (c : CP k h) (hM : jXM K) (x y : Int32) : cpl k K h T_X6_colour T_X7_colour [.ref 0, .int x, .int y] [.ref 37, .int x, .int y] := by
  intro Q hQ
  show _ ∧ _
  refine ⟨rfl, jXM_X hM, hQ _ _ (fun Q2 h2 => ?_)⟩
  show _ ∧ _
  refine ⟨rfl, hM, ?_⟩
  rw [CP_col c]
  exact h2 _ (CP_mono c)
theorem cp_visits {k : Nat} {h : jM} {K : List jK} (c : CP k h) (hM : jXM K) (x y : Int32) : cpl k K h T_X6_visits T_X7_visits [.ref 0, .int x, .int y] [.ref 37, .int x, .int y] := by
  intro Q hQ
  show _ ∧ _
  refine ⟨rfl, jXM_X hM, hQ _ _ (fun Q2 h2 => ?_)⟩
  show _ ∧ _
  refine ⟨rfl, hM, ?_⟩
  rw [c.1.2.2]
  exact h2 _ (CP_mono c)
theorem cp_told {k : Nat} {h : jM} {K : List jK} (c : CP k h) (hM : jXM K) (a w : Int32) : cpl k K h T_X6_told T_X7_told [.ref 0, .int a, .int w] [.ref 37, .int a, .int w] := by
  intro Q hQ
  obtain ⟨cnt, hc6, e0, e8, -⟩ := c.2.1
  have b0 : 0 ≤ (nI cnt).toInt ∧ (nI cnt).toInt ≤ 6 := by rw [nI_toInt (by omega)]; omega
  show _ ∧ _
  refine ⟨rfl, jXM_X hM, by rw [e0]; exact b0, fun n => hQ _ _ (fun Q2 h2 => ?_), fun y => hQ _ _ (fun Q2 h2 => ?_)⟩
  · show _ ∧ _
    refine ⟨rfl, hM, by rw [e8]; exact b0, fun _ => h2 _ (CP_mono c), fun y => absurd (by rw [e8] at y; rw [e0]; exact y) n⟩
  · show _ ∧ _
    refine ⟨rfl, hM, by rw [e8]; exact b0, fun n => absurd (by rw [e8]; rw [e0] at y; exact y) n, fun _ => ?_⟩
    have hi : a.toNatClampNeg < 6 := by
      rw [e0] at y
      have := idx_lt y (by omega)
      omega
    obtain ⟨a1, a2, a3, a4⟩ := CP_ant c hi
    rw [a1, a2, a3, a4]
    exact h2 _ (CP_mono c)
theorem cp_meeting {k : Nat} {h : jM} {K : List jK} (c : CP k h) (hM : jXM K) (i w : Int32) : cpl k K h T_X6_meeting T_X7_meeting [.ref 0, .int i, .int w] [.ref 37, .int i, .int w] := by
  intro Q hQ
  obtain ⟨e14, b, e47, e48, e49, e50⟩ := c.2.2.2.2.2.1
  show _ ∧ _
  refine ⟨rfl, jXM_X hM, b.1, fun n => hQ _ _ (fun Q2 h2 => ?_), fun y => hQ _ _ (fun Q2 h2 => ?_)⟩
  · show _ ∧ _
    rw [e14, e47, e48, e49, e50]
    exact ⟨rfl, hM, b.1, fun _ => h2 _ (CP_mono c), fun y => absurd y n⟩
  · show _ ∧ _
    rw [e14, e47, e48, e49, e50]
    exact ⟨rfl, hM, b.1, fun n => absurd y n, fun _ => h2 _ (CP_mono c)⟩
theorem cp_differ {k : Nat} {h : jM} {K : List jK} (c : CP k h) (hM : jXM K) : cpl k K h T_X6_differ T_X7_differ [.ref 0] [.ref 37] := by
  intro Q hQ
  have e19 : h 37 19 = h 24 0 := c.2.2.2.2.2.2.1.1
  have e52 : h 52 = h 26 := c.2.2.2.2.2.2.1.2.2.2.2.1
  have e38 := CP_col c
  show _ ∧ _
  refine ⟨rfl, jXM_X hM, fun y => hQ _ _ (fun Q2 h2 => ?_), fun n => hQ _ _ (fun Q2 h2 => ?_)⟩
  · show _ ∧ _
    rw [e19, e52, e38]
    exact ⟨rfl, hM, fun _ => h2 _ (CP_mono c), fun n => absurd y n⟩
  · show _ ∧ _
    rw [e19, e52, e38]
    exact ⟨rfl, hM, fun y => absurd y n, fun _ => h2 _ (CP_mono c)⟩
theorem dgA_congr {a b : Nat → Nat → Int32} {d : Int64} : ∀ {n : Nat}, (∀ i, i < n → a i 0 = b i 0 ∧ a i 1 = b i 1 ∧ a i 2 = b i 2 ∧ a i 3 = b i 3) → dgA a d n = dgA b d n
  | 0, _ => rfl
  | n + 1, h => by
    have ih := dgA_congr (n := n) (fun i hi => h i (by omega)) (d := d)
    obtain ⟨a1, a2, a3, a4⟩ := h n (by omega)
    show 31 * (31 * (31 * (31 * dgA a d n + (a n 0).toInt64) + (a n 1).toInt64) + (a n 2).toInt64) + (a n 3).toInt64 = 31 * (31 * (31 * (31 * dgA b d n + (b n 0).toInt64) + (b n 1).toInt64) + (b n 2).toInt64) + (b n 3).toInt64
    rw [ih, a1, a2, a3, a4]
theorem cp_digest {k : Nat} {h : jM} {K : List jK} (c : CP k h) (hM : jXM K) : cpl k K h T_X6_digest T_X7_digest [.ref 0] [.ref 37] := by
  intro Q hQ
  obtain ⟨cnt, hc6, e0, e8, -⟩ := c.2.1
  show _ ∧ _
  refine ⟨rfl, jXM_X hM, cnt, hc6, e0, hQ _ _ (fun Q2 h2 => ?_)⟩
  show _ ∧ _
  refine ⟨rfl, hM, cnt, hc6, e8, ?_⟩
  rw [CP_col c]
  have e : dgA (mAnt h) (dgF (h 2) 240) cnt = dgA (fun i k => h (12 + i) k) (dgF (h 2) 240) cnt := dgA_congr (fun i hi => by
    obtain ⟨a1, a2, a3, a4⟩ := CP_ant c (show i < 6 by omega)
    exact ⟨a1, a2, a3, a4⟩)
  rw [e]
  exact h2 _ (CP_mono c)
theorem jcnt_compl (p : Nat → Prop) : ∀ n, jcnt p n + jcnt (fun k => ¬ p k) n = n
  | 0 => rfl
  | n + 1 => by
    have ih := jcnt_compl p n
    by_cases h : p n
    · rw [jcnt_pos h, jcnt_neg (p := fun k => ¬ p k) (fun z => z h)]
      omega
    · rw [jcnt_neg h, jcnt_pos (p := fun k => ¬ p k) h]
      omega
theorem jcnt_sub (p : Nat → Prop) : 57600 - nI (jcnt p 57600) = nI (jcnt (fun k => ¬ p k) 57600) := by
  have h1 := jcnt_compl p 57600
  obtain ⟨a, ha⟩ : ∃ a, a = jcnt p 57600 := ⟨_, rfl⟩
  obtain ⟨b, hb⟩ : ∃ b, b = jcnt (fun k => ¬ p k) 57600 := ⟨_, rfl⟩
  rw [← ha, ← hb] at h1 ⊢
  rw [e57600]
  apply Int32.toInt_inj.mp
  have e1 : (nI a).toInt = (a : Int) := nI_toInt (by omega)
  have e2 : (nI 57600).toInt = 57600 := rfl
  rw [ti_sub (by rw [e1, e2]; omega) (by rw [e1, e2]; omega), e1, e2, nI_toInt (by omega)]
  omega
theorem jcnt_congr {p q : Nat → Prop} : ∀ {n : Nat}, (∀ i, i < n → (p i ↔ q i)) → jcnt p n = jcnt q n
  | 0, _ => rfl
  | n + 1, h => by
    have ih := jcnt_congr (n := n) (fun i hi => h i (by omega))
    by_cases hp : p n
    · rw [jcnt_pos hp, jcnt_pos ((h n (by omega)).mp hp), ih]
    · rw [jcnt_neg hp, jcnt_neg (fun z => hp ((h n (by omega)).mpr z)), ih]
theorem cp_less {k : Nat} {h : jM} {K : List jK} (c : CP k h) (hM : jXM K) : cpl k K h T_X6_less T_X7_less [.ref 0] [.ref 37] := by
  intro Q hQ
  obtain ⟨cnt, hc6, e0, e8, hv⟩ := c.2.1
  show _ ∧ _
  refine ⟨rfl, jXM_X hM, fun y => hQ _ _ (fun Q2 h2 => ?_), fun n => hQ _ _ (fun Q2 h2 => ?_)⟩
  · show _ ∧ _
    rw [e0, nI_le0 (by omega)] at y
    rw [e8]
    exact ⟨rfl, hM, fun _ => h2 _ (CP_mono c), fun n => absurd ((nI_eq0 (by omega)).mpr y) n⟩
  · show _ ∧ _
    rw [e0, nI_le0 (by omega)] at n
    have e8' : up2 (up2 h 0 7 (h 0 7 - 1)) 24 1 1 37 8 = nI cnt := by rw [up2_n (by decide), up2_n (by decide)]; exact e8
    rw [e8']
    refine ⟨rfl, hM, fun y => absurd ((nI_eq0 (by omega)).mp y) n, fun _ => ?_⟩
    rw [e0] at h2 ⊢
    refine h2 _ ?_
    obtain ⟨m, rfl⟩ : ∃ m, cnt = m + 1 := ⟨cnt - 1, by omega⟩
    rw [nI_pred]
    unfold CP CPR
    simp only [up2_s, up2_n, upr_s, upr_n, upd_s, upd_n, ev_vS, ev_vSr, ev_vQ, ev_vQr, ev_mS, ev_mSr, ev_mQ, ev_mQr, ev_mQ7, ev_vL, ev_vN, ev_vI, ev_vLr, ev_vNr, ev_vIr, Nat.reduceEqDiff, Nat.reduceLeDiff, Nat.reduceLT, not_false_eq_true, and_false, false_and, and_self, and_true, true_and, reduceCtorEq, Nat.zero_ne_one, Nat.one_ne_zero, not_true_eq_false]
    exact ⟨c.1, ⟨m, by omega, rfl, rfl, aVal_le hv (by omega)⟩, c.2.2.1, c.2.2.2.1, c.2.2.2.2.1, pE_mono c.2.2.2.2.2.1, ⟨c.2.2.2.2.2.2.1.1, ⟨fun z => absurd z (by decide), fun z => absurd z.1 (by decide)⟩, c.2.2.2.2.2.2.1.2.2⟩, c.2.2.2.2.2.2.2⟩
theorem cp_count {k : Nat} {h : jM} {K : List jK} (c : CP k h) (hM : jXM K) (w : Int32) : cpl k K h T_X6_count T_X7_count [.ref 0, .int w] [.ref 37, .int w] := by
  intro Q hQ
  obtain ⟨ek0, ek1⟩ := CP_kind c
  have e38 := CP_col c
  have e39 := c.1.2.2
  obtain ⟨cnt, hc6, e0, e8, hv⟩ := c.2.1
  have e14 : h 37 14 = h 19 0 := c.2.2.2.2.2.1.1
  have hn : 2 ≤ (h 1 1).toInt ∧ (h 1 1).toInt ≤ 12 := hv.1.1
  have e9 : 10 + h 1 1 - 1 = 9 + h 1 1 := by
    apply Int32.toInt_inj.mp
    have t10 : (10 : Int32).toInt = 10 := rfl
    have t9 : (9 : Int32).toInt = 9 := rfl
    have t1 : (1 : Int32).toInt = 1 := rfl
    have s1 : (10 + h 1 1).toInt = 10 + (h 1 1).toInt := by rw [ti_add (by rw [t10]; omega) (by rw [t10]; omega), t10]
    rw [ti_sub (by rw [s1, t1]; omega) (by rw [s1, t1]; omega), s1, t1, ti_add (by rw [t9]; omega) (by rw [t9]; omega), t9]
    omega
  have key : (¬ (w = 1 ∨ w = 3 ∨ (10 ≤ w ∧ w ≤ 9 + h 37 1)) → cCount h w = (if w = 0 then h 37 8 else if w = 2 then h 37 14 else if w = 4 then h 37 1 else if w = 5 then h 37 0 else -1)) ∧ ((w = 1 ∨ w = 3 ∨ (10 ≤ w ∧ w ≤ 9 + h 37 1)) → cCount h w = nI (jcnt (mCp h w) 57600)) := by
    unfold cCount
    have wi : ∀ n : Int32, w.toInt = n.toInt ↔ w = n := fun n => Int32.toInt_inj
    have w0 : w.toInt = 0 ↔ w = 0 := wi 0
    have w1 : w.toInt = 1 ↔ w = 1 := wi 1
    have w2 : w.toInt = 2 ↔ w = 2 := wi 2
    have w3 : w.toInt = 3 ↔ w = 3 := wi 3
    have w4 : w.toInt = 4 ↔ w = 4 := wi 4
    have w5 : w.toInt = 5 ↔ w = 5 := wi 5
    simp only [w0, w1, w2, w3, w4, w5]
    rw [ek0, ek1, e8, e14, ← e0, e9]
    by_cases d0 : w = 0
    · subst d0
      refine ⟨fun _ => by rw [if_pos rfl, if_pos rfl], fun z => ?_⟩
      rcases z with z | z | z
      · exact absurd z (by decide)
      · exact absurd z (by decide)
      · exact absurd z.1 (by decide)
    · by_cases d1 : w = 1
      · subst d1
        refine ⟨fun z => absurd (Or.inl rfl) z, fun _ => ?_⟩
        rw [if_neg (by decide), if_pos rfl, jcnt_sub]
        refine congrArg nI (jcnt_congr (fun i hi => ?_))
        unfold mCp
        rw [if_pos rfl, e38]
      · by_cases d2 : w = 2
        · subst d2
          refine ⟨fun _ => by rw [if_neg (by decide), if_neg (by decide), if_pos rfl, if_neg (by decide), if_pos rfl], fun z => ?_⟩
          rcases z with z | z | z
          · exact absurd z (by decide)
          · exact absurd z (by decide)
          · exact absurd z.1 (by decide)
        · by_cases d3 : w = 3
          · subst d3
            refine ⟨fun z => absurd (Or.inr (Or.inl rfl)) z, fun _ => ?_⟩
            rw [if_neg (by decide), if_neg (by decide), if_neg (by decide), if_pos rfl, jcnt_sub]
            refine congrArg nI (jcnt_congr (fun i hi => ?_))
            unfold mCp
            rw [if_neg (by decide), if_pos rfl, e39]
          · by_cases d4 : w = 4
            · subst d4
              refine ⟨fun _ => by rw [if_neg (by decide), if_neg (by decide), if_neg (by decide), if_neg (by decide), if_pos rfl, if_neg (by decide), if_neg (by decide), if_pos rfl], fun z => ?_⟩
              rcases z with z | z | z
              · exact absurd z (by decide)
              · exact absurd z (by decide)
              · exact absurd z.1 (by decide)
            · by_cases d5 : w = 5
              · subst d5
                refine ⟨fun _ => by rw [if_neg (by decide), if_neg (by decide), if_neg (by decide), if_neg (by decide), if_neg (by decide), if_pos rfl, if_neg (by decide), if_neg (by decide), if_neg (by decide), if_pos rfl], fun z => ?_⟩
                rcases z with z | z | z
                · exact absurd z (by decide)
                · exact absurd z (by decide)
                · exact absurd z.1 (by decide)
              · rw [if_neg d0, if_neg d1, if_neg d2, if_neg d3, if_neg d4, if_neg d5, if_neg d0, if_neg d2, if_neg d4, if_neg d5]
                refine ⟨fun z => if_neg (fun y => z (Or.inr (Or.inr y))), fun z => ?_⟩
                rcases z with z | z | z
                · exact absurd z d1
                · exact absurd z d3
                · rw [if_pos z]
                  refine congrArg nI (jcnt_congr (fun i hi => ?_))
                  unfold mCp
                  rw [if_neg d1, if_neg d3, e38]
  show _ ∧ _
  refine ⟨rfl, jXM_X hM, hQ _ _ (fun Q2 h2 => ?_)⟩
  show _ ∧ _
  refine ⟨rfl, hM, fun z => ?_, fun z => ?_⟩
  · rw [← key.1 z]; exact h2 _ (CP_mono c)
  · rw [← key.2 z]; exact h2 _ (CP_mono c)
