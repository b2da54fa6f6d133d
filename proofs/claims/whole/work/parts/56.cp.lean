/-! ===== copy, lay: coupled ===== -/
theorem mCp1_at (h : jM) (b : Nat) : ∀ n i, mCp1 h b n 56 i = if i < n then h 55 (b + i) else h 56 i
  | 0, i => by rw [if_neg (by omega)]; rfl
  | n + 1, i => by
    rw [mCp1_s, up2_s]
    by_cases e : i = n
    · subst e
      rw [upd_s, if_pos (by omega)]
    · rw [upd_n e, mCp1_at h b n i]
      by_cases q : i < n
      · rw [if_pos q, if_pos (by omega)]
      · rw [if_neg q, if_neg (by omega)]
theorem mCq_at (g : jM) (b : Nat) : ∀ n i, mCq g b n 55 i = if b ≤ i ∧ i < b + n then g 56 (i - b) else g 55 i
  | 0, i => by rw [if_neg (by omega)]; rfl
  | n + 1, i => by
    rw [mCq_s, up2_s]
    by_cases e : i = b + n
    · subst e
      rw [upd_s, if_pos (by omega), show b + n - b = n by omega]
    · rw [upd_n e, mCq_at g b n i]
      by_cases q : b ≤ i ∧ i < b + n
      · rw [if_pos q, if_pos (by omega)]
      · rw [if_neg q, if_neg (by omega)]
theorem cpy_at {α : Type} (f g : Nat → α) (sp dp n j : Nat) : va_cpy f g sp dp n j = if dp ≤ j ∧ j < dp + n then f (sp + (j - dp)) else g j := by
  by_cases q : dp ≤ j ∧ j < dp + n
  · rw [if_pos q, pk_cpy_in q.1 q.2]
  · rw [if_neg q, pk_cpy_out (by omega)]
theorem win_iff {i n N : Int32} (hN : 0 ≤ N.toInt ∧ N.toInt ≤ 60) : (0 ≤ i ∧ 0 ≤ n ∧ i ≤ N - n) ↔ (¬ n < 0 ∧ ¬ i < 0 ∧ i.toInt + n.toInt ≤ N.toInt) := by
  have e0 : (0 : Int32).toInt = 0 := rfl
  rw [Int32.not_lt, Int32.not_lt, Int32.le_iff_toInt_le (x := 0) (y := i), Int32.le_iff_toInt_le (x := 0) (y := n), Int32.le_iff_toInt_le (x := i), e0]
  have n1 := n.toInt_lt
  by_cases hn : 0 ≤ n.toInt
  · have : (N - n).toInt = N.toInt - n.toInt := ti_sub (by omega) (by omega)
    rw [this]
    constructor
    · rintro ⟨a, b, d⟩
      exact ⟨b, a, by omega⟩
    · rintro ⟨a, b, d⟩
      exact ⟨b, a, by omega⟩
  · constructor
    · rintro ⟨a, b, d⟩
      exact absurd b hn
    · rintro ⟨a, b, d⟩
      exact absurd a hn
theorem cp_copy {k : Nat} {h : jM} {K : List jK} (c : CP k h) (hM : jXM K) (s i t j n : Int32) : cpl k K h T_X6_copy T_X7_copy [.ref 0, .int s, .int i, .int t, .int j, .int n] [.ref 37, .int s, .int i, .int t, .int j, .int n] := by
  intro Q hQ
  show _ ∧ _
  refine ⟨rfl, jXM_X hM, fun z => hQ _ _ (fun Q2 h2 => ?_), fun y => ?_⟩
  · show _ ∧ _
    exact ⟨rfl, hM, fun _ => h2 _ (CP_mono c), fun y => absurd y z⟩
  · obtain ⟨a, ha, rfl⟩ := sh_of y.1
    obtain ⟨b, hb, rfl⟩ := sh_of y.2
    obtain ⟨s1, s2, s3, s4, s5⟩ := CP_shi c ha
    obtain ⟨t1, t2, t3, t4, t5⟩ := CP_shi c hb
    have a31 := nI_clamp (show a < 2147483648 by omega)
    have b31 := nI_clamp (show b < 2147483648 by omega)
    have la := lane_lt s2
    have lb := lane_lt t2
    rw [a31, b31]
    refine ⟨s3, t3, fun z => hQ _ _ (fun Q2 h2 => ?_), fun z => ⟨fun d => hQ _ _ (fun Q2 h2 => ?_), fun d => ⟨fun w => hQ _ _ (fun Q2 h2 => ?_), fun w => hQ _ _ (fun Q2 h2 => ?_)⟩⟩⟩
    · show _ ∧ _
      rw [a31, b31, s1, t1, la, lb]
      exact ⟨rfl, hM, fun n => absurd y n, fun _ => ⟨s4, t4, fun _ => h2 _ (CP_mono c), fun n => absurd z n⟩⟩
    · show _ ∧ _
      rw [a31, b31, s1, t1, la, lb]
      exact ⟨rfl, hM, fun n => absurd y n, fun _ => ⟨s4, t4, fun n => absurd n z, fun _ => ⟨fun _ => h2 _ (CP_mono c), fun q => absurd q d⟩⟩⟩
    · obtain ⟨s6, s7⟩ := s5 (fun q => z (Or.inl q))
      obtain ⟨t6, t7⟩ := t5 (fun q => z (Or.inr q))
      show _ ∧ _
      rw [a31, b31, s1, t1, la, lb, s6, t6]
      refine ⟨rfl, hM, fun n => absurd y n, fun _ => ⟨s3, t3, fun n => absurd n z, fun _ => ⟨fun q => absurd d q, fun _ => ⟨fun _ => h2 _ (CP_mono c), fun q => ?_⟩⟩⟩⟩
      exact absurd ⟨(win_iff s3).mpr ⟨q.1, q.2.1⟩, (win_iff t3).mpr ⟨q.1, q.2.2⟩⟩ w
    · obtain ⟨s6, s7⟩ := s5 (fun q => z (Or.inl q))
      obtain ⟨t6, t7⟩ := t5 (fun q => z (Or.inr q))
      have wa := (win_iff s3).mp w.1
      have wb := (win_iff t3).mp w.2
      have o : ∀ x, ¬ x = 30 + 2 * b → upr h (30 + 2 * b) (va_cpy (h (30 + 2 * a)) (h (30 + 2 * b)) i.toNatClampNeg j.toNatClampNeg n.toNatClampNeg) x = h x := fun x hx => upr_n hx
      show _ ∧ _
      rw [a31, b31, o 53 (by omega), o 54 (by omega), s1, t1, la, lb, s6, t6]
      refine ⟨rfl, hM, fun n => absurd y n, fun _ => ⟨s3, t3, fun n => absurd n z, fun _ => ⟨fun q => absurd d q, fun _ => ⟨fun q => absurd ⟨wa.1, wa.2, wb.2⟩ q, fun _ => h2 _ ?_⟩⟩⟩⟩
      obtain ⟨N, hN, rfl⟩ := nI_of wa.1
      obtain ⟨I, hI, rfl⟩ := nI_of wa.2.1
      obtain ⟨J, hJ, rfl⟩ := nI_of wb.2.1
      rw [nI_clamp hN, nI_clamp hI, nI_clamp hJ] at o ⊢
      have i1 := wa.2.2
      have i2 := wb.2.2
      rw [nI_toInt hN, nI_toInt hI] at i1
      rw [nI_toInt hN, nI_toInt hJ] at i2
      have b1 : I + N ≤ 60 := by omega
      have b2 : J + N ≤ 60 := by omega
      have g55 : ∀ x, mCq (mCp1 (upr h (30 + 2 * b) (va_cpy (h (30 + 2 * a)) (h (30 + 2 * b)) I J N)) (60 * a + I) N) (60 * b + J) N 55 x = if 60 * b + J ≤ x ∧ x < 60 * b + J + N then h 55 (60 * a + I + (x - (60 * b + J))) else h 55 x := fun x => by
        rw [mCq_at, mCp1_at, mCp1_o _ _ _ (show ¬ 55 = 56 by decide), o 55 (by omega)]
        by_cases q : 60 * b + J ≤ x ∧ x < 60 * b + J + N
        · rw [if_pos q, if_pos q, if_pos (by omega)]
        · rw [if_neg q, if_neg q]
      have go : ∀ x, ¬ x = 55 → ¬ x = 56 → mCq (mCp1 (upr h (30 + 2 * b) (va_cpy (h (30 + 2 * a)) (h (30 + 2 * b)) I J N)) (60 * a + I) N) (60 * b + J) N x = upr h (30 + 2 * b) (va_cpy (h (30 + 2 * a)) (h (30 + 2 * b)) I J N) x := fun x x1 x2 => by
        rw [mCq_o _ _ _ x1, mCp1_o _ _ _ x2]
      refine CP_hold c hb (l := 0) (n := 0) (fun x a1 a2 a3 => ?_) (fun i hi => ?_) (fun i hi => ?_) (fun p hp q hq => ?_) ?_
      · rw [go x (by omega) (by omega), o x a2]
      · rw [go 53 (by decide) (by decide), o 53 (by omega)]
      · rw [go 54 (by decide) (by decide), o 54 (by omega)]
      · rw [g55, if_neg (by omega)]
      · rw [go (29 + 2 * b) (by omega) (by omega), o (29 + 2 * b) (by omega), go (30 + 2 * b) (by omega) (by omega), upr_s, go 53 (by decide) (by decide), o 53 (by omega), go 54 (by decide) (by decide), o 54 (by omega)]
        refine ⟨t1, t2, t3, t4, fun _ => ⟨t6, fun q hq => ?_⟩⟩
        show mCq _ _ _ 55 _ = _
        rw [g55, cpy_at]
        by_cases e : J ≤ q ∧ q < J + N
        · rw [if_pos (by omega), if_pos e]
          have := s7 (I + (q - J)) (by omega)
          rw [← this]
          show h 55 _ = h 55 _
          congr 1
          omega
        · rw [if_neg (by omega), if_neg e]
          exact t7 q hq
theorem mLay_at (h : jM) (b P : Nat) : ∀ n i, mLay h b P n 38 i = if P ≤ i ∧ i < P + n then h 55 (b + (i - P)) else h 38 i
  | 0, i => by rw [if_neg (by omega)]; rfl
  | n + 1, i => by
    rw [mLay_s, up2_s]
    by_cases e : i = P + n
    · subst e
      rw [upd_s, if_pos (by omega), show P + n - P = n by omega]
    · rw [upd_n e, mLay_at h b P n i]
      by_cases q : P ≤ i ∧ i < P + n
      · rw [if_pos q, if_pos (by omega)]
      · rw [if_neg q, if_neg (by omega)]
theorem lay_iff {h : jM} {b : Nat} {x y : Int32} {N : Nat} (h0 : 0 < N) (hN : N ≤ 60) : mGood h b x y N ↔ (onF x y ∧ onF (x + nI N - 1) y ∧ ∀ k, k < N → 0 ≤ h 55 (b + k) ∧ h 55 (b + k) ≤ h 37 1 - 1) := by
  have eN : (nI N).toInt = (N : Int) := nI_toInt (by omega)
  have t1 : (1 : Int32).toInt = 1 := rfl
  have e119 : (119 : Int32).toInt = 119 := rfl
  have em : (-120 : Int32).toInt = -120 := rfl
  constructor
  · intro g
    obtain ⟨a1, a2, -⟩ := g 0 h0
    obtain ⟨b1, -, -⟩ := g (N - 1) (by omega)
    obtain ⟨p1, -, -⟩ := lay_on a1 a2 (by omega)
    have p1' := onF_int p1
    obtain ⟨p2, -, -⟩ := lay_on b1 a2 (by omega)
    have p2' := onF_int p2
    have ez : x + nI 0 = x := by show x + 0 = x; rw [Int32.add_zero]
    rw [ez] at p1
    have p3 := onF_int p1
    have q1 : (nI (N - 1)).toInt = (N : Int) - 1 := by rw [nI_toInt (by omega)]; omega
    have s1 : (x + nI N).toInt = x.toInt + N := by rw [ti_add (by rw [eN]; omega) (by rw [eN]; omega), eN]
    have s2 : (x + nI N - 1).toInt = x.toInt + N - 1 := by rw [ti_sub (by rw [s1, t1]; omega) (by rw [s1, t1]; omega), s1, t1]
    have s3 : (x + nI (N - 1)).toInt = x.toInt + N - 1 := by rw [ti_add (by rw [q1]; omega) (by rw [q1]; omega), q1]; omega
    have e : x + nI N - 1 = x + nI (N - 1) := Int32.toInt_inj.mp (by rw [s2, s3])
    rw [e]
    exact ⟨p1, p2, fun k hk => (g k hk).2.2⟩
  · rintro ⟨p1, p2, p3⟩ q hq
    have a1 := onF_int p1
    have a2 := onF_int p2
    have s1 : (x + nI N).toInt = x.toInt + N := by rw [ti_add (by rw [eN]; omega) (by rw [eN]; omega), eN]
    have s2 : (x + nI N - 1).toInt = x.toInt + N - 1 := by rw [ti_sub (by rw [s1, t1]; omega) (by rw [s1, t1]; omega), s1, t1]
    rw [s2] at a2
    have eq : (nI q).toInt = (q : Int) := nI_toInt (by omega)
    have s4 : (119 - nI q).toInt = 119 - (q : Int) := by rw [ti_sub (by rw [e119, eq]; omega) (by rw [e119, eq]; omega), e119, eq]
    refine ⟨⟨p1.1.1, ?_⟩, p1.2, p3 q hq⟩
    rw [Int32.le_iff_toInt_le, s4]
    omega
theorem ev_vSr2 (h : jM) (f : Nat → Int32) : vS (upr h 2 f) = (f, (vS h).2) := by
  have e : ∀ j, vX (upr h 2 f) j = vX h j := vX_of (fun a ha => upr_n (by omega))
  unfold vS
  rw [upr_s, e, e, e]
/-- laid: what it is -/
theorem CP_laid {k : Nat} {h g : jM} (c : CP k h) {f : Nat → Int32} (ho : ∀ a, ¬ a = 2 → ¬ a = 24 → ¬ a = 37 → ¬ a = 38 → g a = h a) (g2 : g 2 = f) (g38 : g 38 = f) (hf : ∀ i, i < 57600 → 0 ≤ (f i).toInt ∧ (f i).toInt < (h 1 1).toInt) (g24 : ∀ i, ¬ i = 1 → g 24 i = h 24 i) (g37 : ∀ i, ¬ i = 20 → g 37 i = h 37 i) (hsp : g 24 1 = 0 ↔ g 37 20 = 0 ∧ h 37 21 = 0) : CP (k + 1) g := by
  have o := fun a (q : (¬ a = 2 ∧ ¬ a = 24) ∧ (¬ a = 37 ∧ ¬ a = 38)) => ho a q.1.1 q.1.2 q.2.1 q.2.2
  have eX : ∀ j, vX g j = vX h j := vX_of (fun a ha => o a (by omega))
  have e1 : vS g = (f, (vS h).2) := by
    unfold vS
    rw [g2, eX, eX, eX]
  have e2 : vQ g = vQ h := vQ_of (o 1 (by decide)) (fun a ha => o a (by omega)) (fun a ha => o a (by omega))
  have e3 : mS g = (f, (mS h).2) := by
    unfold mS
    rw [g38, o 42 (by decide), o 43 (by decide), o 44 (by decide)]
  have e4 : mQ g = mQ h := mQ_of2 (g37 0 (by decide)) (g37 1 (by decide)) (o 40 (by decide)) (o 45 (by decide))
  obtain ⟨e5, e6, e7⟩ := ev_of (g := g) (h := h) (fun a ha => o a (by omega))
  obtain ⟨cnt, hc6, e0, e8, hv⟩ := c.2.1
  have hM := c.2.2.2.2.2.2.1
  unfold CP CPR
  rw [e1, e2, e3, e4, e5, e6, e7, o 3 (by decide), o 0 (by decide), o 1 (by decide), o 4 (by decide), o 10 (by decide), o 19 (by decide), o 20 (by decide), o 21 (by decide), o 22 (by decide), o 23 (by decide), o 25 (by decide), o 26 (by decide), o 27 (by decide), o 12 (by decide), o 39 (by decide), o 41 (by decide), o 47 (by decide), o 48 (by decide), o 49 (by decide), o 50 (by decide), o 51 (by decide), o 52 (by decide), o 53 (by decide), o 54 (by decide), o 55 (by decide), g24 0 (by decide), g24 2 (by decide), g24 3 (by decide), g37 4 (by decide), g37 7 (by decide), g37 8 (by decide), g37 14 (by decide), g37 19 (by decide), g37 21 (by decide), g37 24 (by decide), g37 25 (by decide), g37 26 (by decide), g37 27 (by decide), g37 28 (by decide)]
  exact ⟨⟨by rw [c.1.1], c.1.2.1, c.1.2.2⟩, ⟨cnt, hc6, e0, e8, aVal_col hv hf⟩, c.2.2.1, c.2.2.2.1, c.2.2.2.2.1, pE_mono c.2.2.2.2.2.1, ⟨hM.1, hsp, hM.2.2⟩, c.2.2.2.2.2.2.2⟩
theorem cp_lay {k : Nat} {h : jM} {K : List jK} (c : CP k h) (hM : jXM K) (s l f n x y : Int32) : cpl k K h T_X6_lay T_X7_lay [.ref 0, .int s, .int l, .int f, .int n, .int x, .int y] [.ref 37, .int s, .int l, .int f, .int n, .int x, .int y] := by
  intro Q hQ
  obtain ⟨k0, k1⟩ := CP_kind c
  have e38 := CP_col c
  obtain ⟨cnt, hc6, e0, e8, hv⟩ := c.2.1
  have hMk := c.2.2.2.2.2.2.1
  show _ ∧ _
  refine ⟨rfl, jXM_X hM, fun z => hQ _ _ (fun Q2 h2 => ?_), fun yy => ?_⟩
  · show _ ∧ _
    exact ⟨rfl, hM, fun _ => h2 _ (CP_mono c), fun y => absurd y z⟩
  · obtain ⟨j, hj, rfl⟩ := sh_of yy.1
    obtain ⟨s1, s2, s3, s4, s5⟩ := CP_shi c hj
    have c31 := nI_clamp (show j < 2147483648 by omega)
    obtain ⟨f1, f2, f3⟩ := jfound_ok yy.2 s2
    rw [c31]
    refine ⟨s3, fun nf => hQ _ _ (fun Q2 h2 => ?_), fun yf => ?_⟩
    · show _ ∧ _
      rw [c31, s1]
      by_cases d : h (29 + 2 * j) 0 < 0
      · rw [f2 d] at h2
        exact ⟨rfl, hM, fun n => absurd yy n, fun _ => ⟨s4, fun _ => h2 _ (CP_mono c), fun n => absurd d n⟩⟩
      · have d2 : ¬ h (29 + 2 * j) 0 = l := fun q => nf (f1.mpr ⟨d, q⟩)
        rw [f3 d d2] at h2
        exact ⟨rfl, hM, fun n => absurd yy n, fun _ => ⟨s4, fun n => absurd n d, fun _ => ⟨fun _ => h2 _ (CP_mono c), fun q => absurd q d2⟩⟩⟩
    · obtain ⟨d, d2⟩ := f1.mp yf
      have hne : ¬ h (29 + 2 * j) 0 = -1 := fun q => d ((lane_lt s2).mpr q)
      obtain ⟨s6, s7⟩ := s5 hne
      refine ⟨fun z => hQ _ _ (fun Q2 h2 => ?_), fun z => ⟨fun w => hQ _ _ (fun Q2 h2 => ?_), fun w => ⟨fun n0 => hQ _ _ (fun Q2 h2 => ?_), fun n0 => ⟨fun g => hQ _ _ (fun Q2 h2 => ?_), fun g => hQ _ _ (fun Q2 h2 => ?_)⟩⟩⟩⟩
      · show _ ∧ _
        rw [c31, s1, s6]
        exact ⟨rfl, hM, fun n => absurd yy n, fun _ => ⟨s3, fun n => absurd n d, fun _ => ⟨fun q => absurd d2 q, fun _ => ⟨fun _ => h2 _ (CP_mono c), fun q => absurd z q⟩⟩⟩⟩
      · show _ ∧ _
        rw [c31, s1, s6]
        refine ⟨rfl, hM, fun n => absurd yy n, fun _ => ⟨s3, fun n => absurd n d, fun _ => ⟨fun q => absurd d2 q, fun _ => ⟨fun q => absurd q z, fun _ => ⟨fun _ => h2 _ (CP_mono c), fun q => ?_⟩⟩⟩⟩⟩
        have := (win_iff (n := n) (i := f) s3).mpr ⟨z, q⟩
        exact absurd ⟨this.1, this.2.2⟩ w
      all_goals
        have wa := (win_iff s3).mp ⟨w.1, Int32.not_lt.mp z, w.2⟩
        obtain ⟨N, hN, rfl⟩ := nI_of z
        obtain ⟨F, hF, rfl⟩ := nI_of wa.2.1
        have i1 := wa.2.2
        rw [nI_toInt hN, nI_toInt hF] at i1
        have b1 : F + N ≤ 60 := by omega
        have ni : (nI N).toInt.toNat = N := by rw [nI_toInt hN]; rfl
        have fi : (nI F).toInt.toNat = F := by rw [nI_toInt hF]; rfl
      · have hN0 : N = 0 := (nI_eq0 hN).mp n0
        subst hN0
        show _ ∧ _
        rw [c31, s1, s6, nI_clamp hF, nI_clamp hN]
        refine ⟨rfl, hM, fun n => absurd yy n, fun _ => ⟨s3, fun n => absurd n d, fun _ => ⟨fun q => absurd d2 q, fun _ => ⟨fun q => absurd q z, fun _ => ⟨fun q => absurd ⟨wa.2.1, wa.2.2⟩ q, fun _ => ⟨fun q => absurd (fun a ha => absurd ha (by omega)) q, fun _ => h2 _ ?_⟩⟩⟩⟩⟩⟩
        refine CP_laid c (f := h 2) (fun a a1 a2 a3 a4 => ?_) ?_ ?_ hv.1.2.1 (fun i hi => ?_) (fun i hi => ?_) ?_
        · rw [up2_n a3]; rfl
        · rw [up2_n (by decide)]; rfl
        · rw [up2_n (by decide)]; exact e38
        · rw [up2_n (by decide)]; rfl
        · rw [up2_s, upd_n hi]; rfl
        · rw [up2_s, upd_s, up2_n (by decide)]
          show h 24 1 = 0 ↔ _
          rw [hMk.2.1]
          by_cases q : h 37 20 = 0
          · rw [if_pos ⟨q, rfl⟩]
            exact ⟨fun z => ⟨rfl, z.2⟩, fun z => ⟨q, z.2⟩⟩
          · rw [if_neg (fun z => q z.1)]
            exact ⟨fun z => absurd z.1 q, fun z => absurd z.1 (by decide)⟩
      · have hN0 : 0 < N := Nat.pos_of_ne_zero (fun q => n0 ((nI_eq0 hN).mpr q))
        show _ ∧ _
        rw [c31, s1, s6, nI_clamp hF, nI_clamp hN]
        refine ⟨rfl, hM, fun n => absurd yy n, fun _ => ⟨s3, fun n => absurd n d, fun _ => ⟨fun q => absurd d2 q, fun _ => ⟨fun q => absurd q z, fun _ => ⟨fun q => absurd ⟨wa.2.1, wa.2.2⟩ q, fun _ => ⟨fun _ => h2 _ (CP_mono c), fun q => ?_⟩⟩⟩⟩⟩⟩
        refine absurd ?_ g
        obtain ⟨p1, p2, p3⟩ := (lay_iff hN0 (by omega)).mp q
        refine ⟨p1, p2, fun a ha => ?_⟩
        rw [ni] at ha
        have := p3 a ha
        rw [fi, ← s7 (F + a) (by omega), ← k1]
        rw [show 60 * j + F + a = 60 * j + (F + a) by omega] at this
        exact this
      · have hN0 : 0 < N := Nat.pos_of_ne_zero (fun q => n0 ((nI_eq0 hN).mpr q))
        rw [nI_clamp hF, nI_clamp hN]
        have g3 : ∀ a, a < N → 0 ≤ h 55 (60 * j + F + a) ∧ h 55 (60 * j + F + a) ≤ h 1 1 - 1 := fun a ha => by
          have := g.2.2 a (by rw [ni]; exact ha)
          rw [fi, ← s7 (F + a) (by omega)] at this
          rw [show 60 * j + F + a = 60 * j + (F + a) by omega]
          exact this
        obtain ⟨C, hC⟩ : ∃ C, C = up2 (upr h 2 (va_cpy (h (30 + 2 * j)) (h 2) F (jpl x y).toNatClampNeg N)) 24 1 1 := ⟨_, rfl⟩
        rw [← hC]
        have o : ∀ a, ¬ a = 2 → ¬ a = 24 → C a = h a := fun a a1 a2 => by rw [hC, up2_n a2, upr_n a1]
        have C2 : C 2 = va_cpy (h (30 + 2 * j)) (h 2) F (jpl x y).toNatClampNeg N := by rw [hC, up2_n (by decide), upr_s]
        have C24 : C 24 = upd (h 24) 1 1 := by rw [hC, up2_s, upr_n (by decide)]
        clear hC
        have hon := g.1
        have hg : mGood C (60 * j + F) x y N := (lay_iff hN0 (by omega)).mpr ⟨g.1, g.2.1, fun a ha => by
          rw [o 55 (by decide) (by decide), o 37 (by decide) (by decide), k1]
          exact g3 a ha⟩
        show _ ∧ _
        rw [c31, nI_clamp hF, nI_clamp hN, o 53 (by decide) (by decide), o 54 (by decide) (by decide), s1, s6]
        refine ⟨rfl, hM, fun n => absurd yy n, fun _ => ⟨s3, fun n => absurd n d, fun _ => ⟨fun q => absurd d2 q, fun _ => ⟨fun q => absurd q z, fun _ => ⟨fun q => absurd ⟨wa.2.1, wa.2.2⟩ q, fun _ => ⟨fun q => absurd hg q, fun _ => h2 _ ?_⟩⟩⟩⟩⟩⟩
        rw [if_neg (fun q => absurd q.2 (by omega))]
        have hrow := row_in hon g.2.1 (by rw [nI_toInt hN]; omega) (by rw [nI_toInt hN]; omega)
        rw [nI_clamp hN] at hrow
        generalize (jpl x y).toNatClampNeg = P at C2 hrow ⊢
        have mo : ∀ a, ¬ a = 37 → ¬ a = 38 → up2 (mLay C (60 * j + F) P N) 37 20 1 a = C a := fun a a1 a2 => by rw [up2_n a1, mLay_o _ _ _ _ a2]
        refine CP_laid c (f := va_cpy (h (30 + 2 * j)) (h 2) F P N) (fun a a1 a2 a3 a4 => ?_) ?_ ?_ (fun i hi => ?_) (fun i hi => ?_) (fun i hi => ?_) ?_
        · rw [mo a a3 a4, o a a1 a2]
        · rw [mo 2 (by decide) (by decide), C2]
        · rw [up2_n (by decide)]
          funext i
          rw [mLay_at, o 55 (by decide) (by decide), o 38 (by decide) (by decide), cpy_at, e38]
          by_cases q : P ≤ i ∧ i < P + N
          · rw [if_pos q, if_pos q, ← s7 (F + (i - P)) (by omega)]
            show h 55 _ = h 55 _
            congr 1
            omega
          · rw [if_neg q, if_neg q]
        · rw [cpy_at]
          by_cases q : P ≤ i ∧ i < P + N
          · rw [if_pos q, ← s7 (F + (i - P)) (by omega)]
            have := g3 (i - P) (by omega)
            rw [show 60 * j + F + (i - P) = 60 * j + (F + (i - P)) by omega] at this
            exact le_m1 this hv.1.1
          · rw [if_neg q]
            exact hv.1.2.1 i hi
        · rw [mo 24 (by decide) (by decide), C24, upd_n hi]
        · rw [up2_s, upd_n hi, mLay_o _ _ _ _ (by decide), o 37 (by decide) (by decide)]
        · rw [mo 24 (by decide) (by decide), C24, upd_s, up2_s, upd_s]
          exact ⟨fun z => absurd z (by decide), fun z => absurd z.1 (by decide)⟩
