/-! ===== sheets: coupled ===== -/
theorem CP_sh {k : Nat} {h g : jM} (c : CP k h) (ho : ∀ a, ¬ (29 ≤ a ∧ a < 37) → ¬ (53 ≤ a ∧ a < 57) → g a = h a) (hs : ∀ i, i < 4 → pSi (g (29 + 2 * i) 0) (g (29 + 2 * i) 1) (g (30 + 2 * i)) (g 53 i) (g 54 i) (fun q => g 55 (60 * i + q))) : CP (k + 1) g := by
  have o := fun a (q : (¬ (29 ≤ a ∧ a < 37)) ∧ ¬ (53 ≤ a ∧ a < 57)) => ho a q.1 q.2
  have e1 : vS g = vS h := vS_of (o 2 (by decide)) (fun a ha => o a (by omega))
  have e2 : vQ g = vQ h := vQ_of (o 1 (by decide)) (fun a ha => o a (by omega)) (fun a ha => o a (by omega))
  have e3 : mS g = mS h := mS_of2 (o 38 (by decide)) (o 42 (by decide)) (o 43 (by decide)) (o 44 (by decide))
  have e4 : mQ g = mQ h := mQ_of2 (by rw [o 37 (by decide)]) (by rw [o 37 (by decide)]) (o 40 (by decide)) (o 45 (by decide))
  have hS : pS (vL2 g) (vN2 g) (vI2 g) (g 53) (g 54) (g 55) := fun i hi => by
    have := hs i hi
    unfold vL2 vN2 vI2
    rw [if_pos hi, if_pos hi, if_pos hi]
    exact this
  unfold CP CPR
  rw [e1, e2, e3, e4, o 3 (by decide), o 0 (by decide), o 1 (by decide), o 4 (by decide), o 10 (by decide), o 19 (by decide), o 20 (by decide), o 21 (by decide), o 22 (by decide), o 23 (by decide), o 24 (by decide), o 25 (by decide), o 26 (by decide), o 27 (by decide), o 12 (by decide), o 37 (by decide), o 39 (by decide), o 41 (by decide), o 47 (by decide), o 48 (by decide), o 49 (by decide), o 50 (by decide), o 51 (by decide), o 52 (by decide)]
  exact ⟨c.1, c.2.1, c.2.2.1, c.2.2.2.1, c.2.2.2.2.1, pE_mono c.2.2.2.2.2.1, c.2.2.2.2.2.2.1, hS, c.2.2.2.2.2.2.2.2⟩
theorem CP_shi {k : Nat} {h : jM} (c : CP k h) {i : Nat} (hi : i < 4) : pSi (h (29 + 2 * i) 0) (h (29 + 2 * i) 1) (h (30 + 2 * i)) (h 53 i) (h 54 i) (fun q => h 55 (60 * i + q)) := by
  have := c.2.2.2.2.2.2.2.1 i hi
  unfold vL2 vN2 vI2 at this
  rw [if_pos hi, if_pos hi, if_pos hi] at this
  exact this
theorem jhold_o {h : jM} {a : Nat} {l n : Int32} {b : Nat} (h1 : ¬ b = a) (h2 : ¬ b = a + 1) : jhold h a l n b = h b := by
  unfold jhold
  rw [upr_n h2, up2_n h1, up2_n h1]
theorem jhold_a (h : jM) (a : Nat) (l n : Int32) : jhold h a l n a = upd (upd (h a) 0 l) 1 n := by
  unfold jhold
  rw [upr_n (by omega), up2_s, up2_s]
theorem jhold_i (h : jM) (a : Nat) (l n : Int32) {q : Nat} (hq : q < 60) : jhold h a l n (a + 1) q = 0 := by
  unfold jhold
  rw [upr_s, jfill_in hq]
theorem mwipe_o (h : jM) (b : Nat) {a : Nat} (ha : ¬ a = 55) : ∀ n, mwipe h b n a = h a
  | 0 => rfl
  | n + 1 => by rw [mwipe_s, up2_n ha]; exact mwipe_o h b ha n
theorem mwipe_at (h : jM) (b : Nat) : ∀ n i, mwipe h b n 55 i = if b ≤ i ∧ i < b + n then 0 else h 55 i
  | 0, i => by rw [if_neg (by omega)]; rfl
  | n + 1, i => by
    rw [mwipe_s, up2_s]
    by_cases e : i = b + n
    · subst e
      rw [upd_s, if_pos (by omega)]
    · rw [upd_n e, mwipe_at h b n i]
      by_cases q : b ≤ i ∧ i < b + n
      · rw [if_pos q, if_pos (by omega)]
      · rw [if_neg q, if_neg (by omega)]
theorem lane_lt {L : Int32} (h : L = -1 ∨ (0 ≤ L.toInt ∧ L.toInt ≤ 2)) : L < 0 ↔ L = -1 := by
  rw [Int32.lt_iff_toInt_lt]
  have e0 : (0 : Int32).toInt = 0 := rfl
  have e1 : (-1 : Int32).toInt = -1 := rfl
  rw [e0]
  rcases h with h | h
  · rw [h, e1]; exact ⟨fun _ => rfl, fun _ => by decide⟩
  · refine ⟨fun z => by omega, fun z => ?_⟩
    rw [z, e1] at h
    omega
theorem lane_of {l : Int32} (h : 0 ≤ l ∧ l ≤ 2) : 0 ≤ l.toInt ∧ l.toInt ≤ 2 := ⟨le_of_lit h.1, le_of_lit h.2⟩
theorem lane_ne {l : Int32} (h : 0 ≤ l ∧ l ≤ 2) : ¬ l = -1 := by
  intro z
  subst z
  exact absurd h.1 (by decide)
theorem CP_hold {k : Nat} {h g : jM} (c : CP k h) {j : Nat} (hj : j < 4) {l n : Int32} (ho : ∀ a, ¬ a = 29 + 2 * j → ¬ a = 30 + 2 * j → ¬ (53 ≤ a ∧ a < 57) → g a = h a) (h53 : ∀ i, ¬ i = j → g 53 i = h 53 i) (h54 : ∀ i, ¬ i = j → g 54 i = h 54 i) (h55 : ∀ i, ¬ i = j → ∀ q, q < 60 → g 55 (60 * i + q) = h 55 (60 * i + q))
    (hs : pSi (g (29 + 2 * j) 0) (g (29 + 2 * j) 1) (g (30 + 2 * j)) (g 53 j) (g 54 j) (fun q => g 55 (60 * j + q))) : CP (k + 1) g := by
  refine CP_sh c (fun a h1 h2 => ho a (by omega) (by omega) h2) (fun i hi => ?_)
  by_cases e : i = j
  · subst e; exact hs
  · have z := CP_shi c hi
    rw [ho (29 + 2 * i) (by omega) (by omega) (by omega), ho (30 + 2 * i) (by omega) (by omega) (by omega), h53 i e, h54 i e]
    exact ⟨z.1, z.2.1, z.2.2.1, z.2.2.2.1, fun q => ⟨(z.2.2.2.2 q).1, fun p hp => (h55 i e p hp).trans ((z.2.2.2.2 q).2 p hp)⟩⟩
theorem cp_sheet {k : Nat} {h : jM} {K : List jK} (c : CP k h) (hM : jXM K) (s l n : Int32) : cpl k K h T_X6_sheet T_X7_sheet [.ref 0, .int s, .int l, .int n] [.ref 37, .int s, .int l, .int n] := by
  intro Q hQ
  show _ ∧ _
  refine ⟨rfl, jXM_X hM, fun z => hQ _ _ (fun Q2 h2 => ?_), fun y => ⟨fun z => hQ _ _ (fun Q2 h2 => ?_), fun z => hQ _ _ (fun Q2 h2 => ?_)⟩⟩
  · show _ ∧ _
    exact ⟨rfl, hM, fun _ => h2 _ (CP_mono c), fun y => absurd y z⟩
  · show _ ∧ _
    exact ⟨rfl, hM, fun n => absurd y n, fun _ => ⟨fun _ => h2 _ (CP_mono c), fun n => absurd z n⟩⟩
  · show _ ∧ _
    refine ⟨rfl, hM, fun n => absurd y n, fun _ => ⟨fun n => absurd n z, fun _ => h2 _ ?_⟩⟩
    obtain ⟨j, hj, rfl⟩ := sh_of y.1
    rw [nI_clamp (show j < 2147483648 by omega)]
    have hn : 0 ≤ n.toInt ∧ n.toInt ≤ 60 := ⟨le_of_lit (Int32.not_lt.mp z), le_of_lit y.2.2⟩
    refine CP_hold c hj (l := l) (n := n) (fun a a1 a2 a3 => ?_) (fun i hi => ?_) (fun i hi => ?_) (fun i hi q hq => ?_) ?_
    · rw [mwipe_o _ _ (by omega), up2_n (by omega), up2_n (by omega), jhold_o a1 (by omega)]
    · rw [mwipe_o _ _ (by decide), up2_n (by decide), up2_s, upd_n hi, jhold_o (by omega) (by omega)]
    · rw [mwipe_o _ _ (by decide), up2_s, upd_n hi, up2_n (by decide), jhold_o (by omega) (by omega)]
    · rw [mwipe_at, if_neg (by omega), up2_n (by decide), up2_n (by decide), jhold_o (by omega) (by omega)]
    · have f1 : mwipe (up2 (up2 (jhold h (29 + 2 * j) l n) 53 j l) 54 j n) (60 * j) 60 (29 + 2 * j) = upd (upd (h (29 + 2 * j)) 0 l) 1 n := by rw [mwipe_o _ _ (by omega), up2_n (by omega), up2_n (by omega), jhold_a]
      have f2 : ∀ q, q < 60 → mwipe (up2 (up2 (jhold h (29 + 2 * j) l n) 53 j l) 54 j n) (60 * j) 60 (30 + 2 * j) q = 0 := fun q hq => by
        rw [mwipe_o _ _ (by omega), up2_n (by omega), up2_n (by omega), show 30 + 2 * j = 29 + 2 * j + 1 by omega, jhold_i _ _ _ _ hq]
      rw [f1, upd_n (by decide), upd_s, upd_s, mwipe_o _ _ (show ¬ 53 = 55 by decide), up2_n (show ¬ 53 = 54 by decide), up2_s, upd_s, mwipe_o _ _ (show ¬ 54 = 55 by decide), up2_s, upd_s]
      refine ⟨rfl, Or.inr (lane_of y.2.1), hn, hn, fun _ => ⟨rfl, fun q hq => ?_⟩⟩
      show mwipe _ _ _ 55 _ = _
      rw [f2 q hq, mwipe_at, if_pos (by omega)]
theorem cp_drop {k : Nat} {h : jM} {K : List jK} (c : CP k h) (hM : jXM K) (s : Int32) : cpl k K h T_X6_drop T_X7_drop [.ref 0, .int s] [.ref 37, .int s] := by
  intro Q hQ
  show _ ∧ _
  refine ⟨rfl, jXM_X hM, fun z => hQ _ _ (fun Q2 h2 => ?_), fun y => ⟨fun z => hQ _ _ (fun Q2 h2 => ?_), fun z => hQ _ _ (fun Q2 h2 => ?_)⟩⟩
  · show _ ∧ _
    exact ⟨rfl, hM, fun _ => h2 _ (CP_mono c), fun y => absurd y z⟩
  · obtain ⟨j, hj, rfl⟩ := sh_of y
    obtain ⟨s1, s2, s3, s4, s5⟩ := CP_shi c hj
    rw [nI_clamp (show j < 2147483648 by omega)] at z
    show _ ∧ _
    rw [nI_clamp (show j < 2147483648 by omega), s1, lane_lt s2]
    exact ⟨rfl, hM, fun n => absurd y n, fun _ => ⟨fun _ => h2 _ (CP_mono c), fun n => absurd z n⟩⟩
  · obtain ⟨j, hj, rfl⟩ := sh_of y
    obtain ⟨s1, s2, s3, s4, s5⟩ := CP_shi c hj
    rw [nI_clamp (show j < 2147483648 by omega)] at z h2 ⊢
    show _ ∧ _
    rw [nI_clamp (show j < 2147483648 by omega), jhold_o (by omega) (by omega), s1, lane_lt s2, jhold_o (by omega) (by omega), (s5 z).1]
    refine ⟨rfl, hM, fun n => absurd y n, fun _ => ⟨fun q => absurd q z, fun _ => h2 _ ?_⟩⟩
    refine CP_hold c hj (l := -1) (n := 0) (fun a a1 a2 a3 => ?_) (fun i hi => ?_) (fun i hi => ?_) (fun i hi q hq => ?_) ?_
    · rw [up2_n (by omega), jhold_o a1 (by omega)]
    · rw [up2_s, upd_n hi, jhold_o (by omega) (by omega)]
    · rw [up2_n (by decide), jhold_o (by omega) (by omega)]
    · rw [up2_n (by decide), jhold_o (by omega) (by omega)]
    · rw [up2_n (show ¬ 29 + 2 * j = 53 by omega), jhold_a, upd_n (by decide), upd_s, upd_s, up2_s, upd_s, up2_n (show ¬ 54 = 53 by decide), jhold_o (show ¬ 54 = 29 + 2 * j by omega) (by omega)]
      exact ⟨rfl, Or.inl rfl, ⟨by decide, by decide⟩, s4, fun q => absurd rfl q⟩
theorem jlow_eq (l v : Int32) : jlow l.toInt v = mlow l v := by
  unfold jlow mlow
  have w0 : l.toInt = 0 ↔ l = 0 := Int32.toInt_inj (y := 0)
  have w1 : l.toInt = 1 ↔ l = 1 := Int32.toInt_inj (y := 1)
  simp only [w0, w1]
theorem jfound_ok {L l : Int32} (hl : 0 ≤ l ∧ l ≤ 2) (h : L = -1 ∨ (0 ≤ L.toInt ∧ L.toInt ≤ 2)) : (jfound L l = 0 ↔ (¬ L < 0 ∧ L = l)) ∧ (L < 0 → jfound L l = -11) ∧ (¬ L < 0 → ¬ L = l → jfound L l = -12) := by
  have hlt := lane_lt h
  unfold jfound
  by_cases e : L = -1
  · rw [if_pos e]
    exact ⟨⟨fun z => absurd z (by decide), fun z => absurd (hlt.mpr e) z.1⟩, fun _ => rfl, fun n => absurd (hlt.mpr e) n⟩
  · rw [if_neg e]
    have e' : ¬ L < 0 := fun z => e (hlt.mp z)
    by_cases d : L = l
    · rw [if_pos d]
      exact ⟨⟨fun _ => ⟨e', d⟩, fun _ => rfl⟩, fun z => absurd z e', fun _ n => absurd d n⟩
    · rw [if_neg d]
      exact ⟨⟨fun z => absurd z (by decide), fun z => absurd z.2 d⟩, fun z => absurd z e', fun _ _ => rfl⟩
theorem cp_item {k : Nat} {h : jM} {K : List jK} (c : CP k h) (hM : jXM K) (s l i v : Int32) : cpl k K h T_X6_item T_X7_item [.ref 0, .int s, .int l, .int i, .int v] [.ref 37, .int s, .int l, .int i, .int v] := by
  intro Q hQ
  show _ ∧ _
  refine ⟨rfl, jXM_X hM, fun z => hQ _ _ (fun Q2 h2 => ?_), fun y => ?_⟩
  · show _ ∧ _
    exact ⟨rfl, hM, fun _ => h2 _ (CP_mono c), fun y => absurd y z⟩
  · obtain ⟨j, hj, rfl⟩ := sh_of y.1
    obtain ⟨s1, s2, s3, s4, s5⟩ := CP_shi c hj
    have c31 := nI_clamp (show j < 2147483648 by omega)
    obtain ⟨f1, f2, f3⟩ := jfound_ok y.2 s2
    rw [c31]
    refine ⟨s3, fun nf => hQ _ _ (fun Q2 h2 => ?_), fun yf => ⟨fun z => hQ _ _ (fun Q2 h2 => ?_), fun z => hQ _ _ (fun Q2 h2 => ?_)⟩⟩
    · show _ ∧ _
      rw [c31, s1]
      by_cases d : h (29 + 2 * j) 0 < 0
      · rw [f2 d] at h2
        exact ⟨rfl, hM, fun n => absurd y n, fun _ => ⟨fun _ => h2 _ (CP_mono c), fun n => absurd d n, fun n => absurd d n⟩⟩
      · have d2 : ¬ h (29 + 2 * j) 0 = l := fun q => nf (f1.mpr ⟨d, q⟩)
        rw [f3 d d2] at h2
        exact ⟨rfl, hM, fun n => absurd y n, fun _ => ⟨fun n => absurd n d, fun _ _ => h2 _ (CP_mono c), fun _ q => absurd q d2⟩⟩
    · obtain ⟨d, d2⟩ := f1.mp yf
      have hne : ¬ h (29 + 2 * j) 0 = -1 := fun q => d ((lane_lt s2).mpr q)
      obtain ⟨s6, s7⟩ := s5 hne
      show _ ∧ _
      rw [c31, s1, s6]
      exact ⟨rfl, hM, fun n => absurd y n, fun _ => ⟨fun n => absurd n d, fun _ q => absurd d2 q, fun _ _ => ⟨s3, fun _ => h2 _ (CP_mono c), fun q => absurd q z⟩⟩⟩
    · obtain ⟨d, d2⟩ := f1.mp yf
      have hne : ¬ h (29 + 2 * j) 0 = -1 := fun q => d ((lane_lt s2).mpr q)
      obtain ⟨s6, s7⟩ := s5 hne
      have hi := vp_in_clamp (in_of_le z s3)
      have o53 : up2 h (30 + 2 * j) i.toNatClampNeg (jlow (h (29 + 2 * j) 0).toInt v) 53 = h 53 := up2_n (by omega)
      have o54 : up2 h (30 + 2 * j) i.toNatClampNeg (jlow (h (29 + 2 * j) 0).toInt v) 54 = h 54 := up2_n (by omega)
      show _ ∧ _
      rw [c31, o53, o54, s1, s6]
      refine ⟨rfl, hM, fun n => absurd y n, fun _ => ⟨fun n => absurd n d, fun _ q => absurd d2 q, fun _ _ => ⟨s3, fun q => absurd z q, fun _ => h2 _ ?_⟩⟩⟩
      generalize i.toNatClampNeg = I at hi ⊢
      refine CP_hold c hj (l := l) (n := 0) (fun a a1 a2 a3 => ?_) (fun i hi => ?_) (fun i hi => ?_) (fun p hp q hq => ?_) ?_
      · rw [up2_n (by omega), up2_n a2]
      · rw [up2_n (by decide), up2_n (by omega)]
      · rw [up2_n (by decide), up2_n (by omega)]
      · rw [up2_s, upd_n (by omega), up2_n (by omega)]
      · rw [up2_n (show ¬ 29 + 2 * j = 55 by omega), up2_n (show ¬ 29 + 2 * j = 30 + 2 * j by omega), up2_n (show ¬ 30 + 2 * j = 55 by omega), up2_s (h) (30 + 2 * j), up2_n (show ¬ 53 = 55 by decide), up2_n (show ¬ 53 = 30 + 2 * j by omega), up2_n (show ¬ 54 = 55 by decide), up2_n (show ¬ 54 = 30 + 2 * j by omega)]
        refine ⟨s1, s2, s3, s4, fun _ => ⟨s6, fun q hq => ?_⟩⟩
        show up2 _ 55 _ _ 55 _ = _
        rw [up2_s, up2_n (show ¬ 55 = 30 + 2 * j by omega)]
        by_cases e : q = I
        · subst e
          rw [upd_s, upd_s, jlow_eq, d2]
        · rw [upd_n (by omega), upd_n e]
          exact s7 q hq
