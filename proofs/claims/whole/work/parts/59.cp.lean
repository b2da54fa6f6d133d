/-! ===== runs on both sides ===== -/
def pE0 (t : Int32) (a b c d : Nat → Int32) (t2 : Int32) (a2 b2 c2 d2 : Nat → Int32) : Prop := t2 = t ∧ a2 = a ∧ b2 = b ∧ c2 = c ∧ d2 = d
def RU (cnt : Nat) (c m : jM) : Prop := (mS m = vS c ∧ mQ m = vQ c ∧ m 39 = c 3) ∧ (c 0 7 = nI cnt ∧ m 37 8 = nI cnt ∧ aVal (vQ c) (vS c) cnt) ∧ m 37 4 = c 0 8 ∧ pT (c 4 2) (c 10) (m 37 7) (m 41) ∧ pE0 (c 19 0) (c 20) (c 21) (c 22) (c 23) (m 37 14) (m 47) (m 48) (m 49) (m 50) ∧ pM (c 24 0) (c 24 1) (c 24 2) (c 24 3) (c 25 0) (c 25 1) (c 25 2) (c 25 3) (c 26) (c 27) (m 37 19) (m 37 20) (m 37 21) (m 37 24) (m 37 25) (m 37 26) (m 37 27) (m 37 28) (m 51) (m 52) ∧ pS (vL2 c) (vN2 c) (vI2 c) (m 53) (m 54) (m 55) ∧ onF (c 12 0) (c 12 1)
theorem RU_of {cnt : Nat} {c m c2 m2 : jM} (h : RU cnt c m) (hc : ∀ a, a < 37 → c2 a = c a) (hm : ∀ a, 37 ≤ a → a < 57 → m2 a = m a) : RU cnt c2 m2 := by
  have e1 : vS c2 = vS c := vS_of (hc 2 (by decide)) (fun a ha => hc a (by omega))
  have e2 : vQ c2 = vQ c := vQ_of (hc 1 (by decide)) (fun a ha => hc a (by omega)) (fun a ha => hc a (by omega))
  have e3 : mS m2 = mS m := mS_of2 (hm 38 (by decide) (by decide)) (hm 42 (by decide) (by decide)) (hm 43 (by decide) (by decide)) (hm 44 (by decide) (by decide))
  have e4 : mQ m2 = mQ m := mQ_of2 (congrFun (hm 37 (by decide) (by decide)) 0) (congrFun (hm 37 (by decide) (by decide)) 1) (hm 40 (by decide) (by decide)) (hm 45 (by decide) (by decide))
  obtain ⟨e5, e6, e7⟩ := ev_of (g := c2) (h := c) (fun a ha => hc a (by omega))
  unfold RU
  rw [e1, e2, e3, e4, e5, e6, e7, hc 3 (by decide), hc 0 (by decide), hc 4 (by decide), hc 10 (by decide), hc 19 (by decide), hc 20 (by decide), hc 21 (by decide), hc 22 (by decide), hc 23 (by decide), hc 24 (by decide), hc 25 (by decide), hc 26 (by decide), hc 27 (by decide), hc 12 (by decide), hm 37 (by decide) (by decide), hm 39 (by decide) (by decide), hm 41 (by decide) (by decide), hm 47 (by decide) (by decide), hm 48 (by decide) (by decide), hm 49 (by decide) (by decide), hm 50 (by decide) (by decide), hm 51 (by decide) (by decide), hm 52 (by decide) (by decide), hm 53 (by decide) (by decide), hm 54 (by decide) (by decide), hm 55 (by decide) (by decide)]
  exact h
theorem on12 (h : jM) : h 12 0 = (vS h).2.1 0 ∧ h 12 1 = (vS h).2.2.1 0 := ⟨(vX_at h 0 (i := 0) (by omega)).symm, (vX_at h 1 (i := 0) (by omega)).symm⟩
/-- ant 0 stays on the floor -/
theorem on12_of {g h : jM} {q : aQ} {cnt : Nat} (hon : onF (h 12 0) (h 12 1)) (hv : aVal q (vS g) cnt) (h0 : cnt = 0 → vS g = vS h) : onF (g 12 0) (g 12 1) := by
  rw [(on12 g).1, (on12 g).2]
  by_cases e : cnt = 0
  · rw [h0 e, ← (on12 h).1, ← (on12 h).2]; exact hon
  · exact (hv.2 0 (by omega)).1
theorem ru_step {cnt : Nat} {c m c2 m2 : jM} (hc6 : cnt ≤ 6) (r : RU cnt c m) (hm0 : 0 ≤ (c 19 0).toInt) (hm1 : (c 19 0).toInt + cnt < 2147483648) (hs : cSucc cnt c c2) (ht : mSucc cnt m m2) : RU cnt c2 m2 := by
  obtain ⟨⟨r1, r2, r3⟩, ⟨r4, r5, r6⟩, r7, ⟨rt1, rt2, rt3⟩, ⟨re1, re2, re3, re4, re5⟩, ⟨t0, t1, t2, t3, t7, t8, t9⟩, rS, rO⟩ := r
  obtain ⟨i1, i2, i3, i4, -⟩ := succ_inv hs hm0 hm1
  obtain ⟨j1, j2, j3, -, -⟩ := mSucc_inv ht (by rw [re1]; exact hm0) (by rw [re1]; exact hm1)
  have hv2 : aVal (vQ c2) (vS c2) cnt := by rw [i3, i1]; exact aVal_acts r6 cnt (Nat.le_refl _) hs.1
  obtain ⟨hall, g1, s1, s2, s3, s4, s5, s6⟩ := hs
  obtain ⟨-, g2, u1, u2, u3, -, u6⟩ := ht
  obtain ⟨X1, hX1⟩ : ∃ X1, X1 = up2 g1 0 8 (g1 0 8 + 1) := ⟨_, rfl⟩
  obtain ⟨X2, hX2⟩ : ∃ X2, X2 = jtr X1 cnt := ⟨_, rfl⟩
  rw [← hX1, ← hX2] at s6
  obtain ⟨Y1, hY1⟩ : ∃ Y1, Y1 = mVs (aP (mS m)) g2 cnt := ⟨_, rfl⟩
  obtain ⟨Y2, hY2⟩ : ∃ Y2, Y2 = up2 Y1 37 4 (Y1 37 4 + 1) := ⟨_, rfl⟩
  rw [← hY1, ← hY2] at u6
  have x1 : ∀ a, ¬ a = 0 → X1 a = g1 a := fun a ha => by rw [hX1, up2_n ha]
  have x2 : ∀ a, ¬ a = 24 → ¬ a = 27 → X2 a = X1 a := fun a h1 h2 => by rw [hX2, jtr_o _ h1 h2]
  have x3 : ∀ a, ¬ (19 ≤ a ∧ a < 24) → c2 a = X2 a := fun a ha => by rw [s6, (cNt_o X2 cnt cnt).1 a ha]
  have xc : ∀ a, (¬ a = 2 ∧ ¬ a = 3 ∧ ¬ (12 ≤ a ∧ a < 18) ∧ ¬ a = 18) ∧ (¬ a = 0 ∧ ¬ a = 24 ∧ ¬ a = 27) → X2 a = c a := fun a z => by rw [x2 a z.2.2.1 z.2.2.2, x1 a z.2.1, s4 a z.1.1 z.1.2.1 z.1.2.2.1 z.1.2.2.2]
  have cc : ∀ a, ((¬ a = 2 ∧ ¬ a = 3 ∧ ¬ (12 ≤ a ∧ a < 18) ∧ ¬ a = 18) ∧ (¬ a = 0 ∧ ¬ a = 24 ∧ ¬ a = 27)) ∧ ¬ (19 ≤ a ∧ a < 24) → c2 a = c a := fun a z => by rw [x3 a z.2, xc a z.1]
  have y1 : ∀ a, ¬ a = 39 → ¬ a = 51 → Y1 a = g2 a := fun a h1 h2 => by rw [hY1, mVs_o _ _ _ h1 h2]
  have y2 : ∀ a, ¬ a = 37 → Y2 a = Y1 a := fun a h1 => by rw [hY2, up2_n h1]
  have y3 : ∀ a, (¬ (47 ≤ a ∧ a < 51) ∧ ¬ a = 37) → m2 a = Y2 a := fun a ha => by rw [u6, (mMt_o Y2 cnt cnt).1 a ha]
  have yc : ∀ a, (¬ a = 38 ∧ ¬ a = 42 ∧ ¬ a = 43 ∧ ¬ a = 44 ∧ ¬ a = 46) ∧ (¬ a = 39 ∧ ¬ a = 51 ∧ ¬ a = 37) → Y2 a = m a := fun a z => by rw [y2 a z.2.2.2, y1 a z.2.1 z.2.2.1, u3 a z.1.1 z.1.2.1 z.1.2.2.1 z.1.2.2.2.1 z.1.2.2.2.2]
  have mm : ∀ a, ((¬ a = 38 ∧ ¬ a = 42 ∧ ¬ a = 43 ∧ ¬ a = 44 ∧ ¬ a = 46) ∧ (¬ a = 39 ∧ ¬ a = 51 ∧ ¬ a = 37)) ∧ ¬ (47 ≤ a ∧ a < 51) → m2 a = m a := fun a z => by rw [y3 a ⟨z.2, z.1.2.2.2⟩, yc a z.1]
  have g37 : Y1 37 = m 37 := by rw [y1 37 (by decide) (by decide), u3 37 (by decide) (by decide) (by decide) (by decide) (by decide)]
  have Y37 : Y2 37 = upd (m 37) 4 (m 37 4 + 1) := by rw [hY2, up2_s, g37]
  have m37 : ∀ i, ¬ i = 14 → m2 37 i = upd (m 37) 4 (m 37 4 + 1) i := fun i hi => by rw [u6, mMt_37 _ _ _ hi, Y37]
  have m37o : ∀ i, ¬ i = 14 → ¬ i = 4 → m2 37 i = m 37 i := fun i h1 h2 => by rw [m37 i h1, upd_n h2]
  have X0 : X2 0 8 = c 0 8 + 1 := by rw [x2 0 (by decide) (by decide), hX1, up2_s, upd_s, s4 0 (by decide) (by decide) (by decide) (by decide)]
  have c24 : ∀ i, ¬ i = 3 → c2 24 i = c 24 i := fun i hi => by rw [x3 24 (by decide), hX2, jtr_24 _ _ hi, x1 24 (by decide), s4 24 (by decide) (by decide) (by decide) (by decide)]
  have X24 : X1 24 = c 24 := by rw [x1 24 (by decide), s4 24 (by decide) (by decide) (by decide) (by decide)]
  have X27 : X1 27 = c 27 := by rw [x1 27 (by decide), s4 27 (by decide) (by decide) (by decide) (by decide)]
  have v12 : ∀ k, vX X2 k = vX g1 k := fun k => vX_of (fun a ha => by rw [x2 a (by omega) (by omega), x1 a (by omega)]) k
  have e5 := ev_of (g := c2) (h := c) (fun a ha => cc a (by omega))
  -- positions
  have pos : mS g2 = vS g1 := by rw [u1, s1, r1, r2]
  have ex : cut6 (Y2 42) = vX X2 0 := by
    rw [y2 42 (by decide), y1 42 (by decide) (by decide), v12]
    exact congrArg (fun q : aS => q.2.1) pos
  have ey : cut6 (Y2 43) = vX X2 1 := by
    rw [y2 43 (by decide), y1 43 (by decide) (by decide), v12]
    exact congrArg (fun q : aS => q.2.2.1) pos
  have mt := meet_ok (X := X2) (Y := Y2) hc6 ex ey (by rw [Y37, upd_s, X0, r7]) (by rw [Y37, upd_n (by decide), re1, xc 19 (by decide)]) (by rw [yc 47 (by decide), re2, xc 20 (by decide)]) (by rw [yc 48 (by decide), re3, xc 21 (by decide)]) (by rw [yc 49 (by decide), re4, xc 22 (by decide)]) (by rw [yc 50 (by decide), re5, xc 23 (by decide)]) cnt (Nat.le_refl _)
  rw [← s6, ← u6] at mt
  have hP : aP (mS m) = aP (vS c) := by rw [r1]
  refine ⟨⟨?_, ?_, ?_⟩, ⟨?_, ?_, hv2⟩, ?_, ?_, ⟨mt.2.1, mt.2.2.1, mt.2.2.2.1, mt.2.2.2.2.1, mt.2.2.2.2.2⟩, ?_, ?_, ?_⟩
  · rw [j1, i1, r1, r2]
  · rw [j2, i3, r2]
  · rw [i2, y3 39 (by decide), y2 39 (by decide), hY1, mVs_39, u3 39 (by decide) (by decide) (by decide) (by decide) (by decide), r3, hP]
  · rw [i4]; exact r4
  · rw [j3]; exact r5
  · rw [m37 4 (by decide), upd_s, x3 0 (by decide), X0, r7]
  · rw [cc 4 (by decide), cc 10 (by decide), m37o 7 (by decide) (by decide), mm 41 (by decide)]
    exact ⟨rt1, rt2, rt3⟩
  · rw [c24 0 (by decide), c24 1 (by decide), c24 2 (by decide), cc 25 (by decide), cc 26 (by decide), m37o 19 (by decide) (by decide), m37o 20 (by decide) (by decide), m37o 21 (by decide) (by decide), m37o 24 (by decide) (by decide), m37o 25 (by decide) (by decide), m37o 26 (by decide) (by decide), m37o 27 (by decide) (by decide), m37o 28 (by decide) (by decide), mm 52 (by decide)]
    refine ⟨t0, t1, t2, t3, t7, t8, fun hk => ?_⟩
    obtain ⟨z1, z2⟩ := t9 hk
    have tr := trod_ok (X := X1) (g := g2) (P := aP (mS m)) (cnt := cnt) (by rw [X24]; exact hk) (fun b hb => ?_) (fun Q hQ => ?_) (by rw [X24, X27]; exact z2) cnt (Nat.le_refl _)
    · rw [y3 51 (by decide), y2 51 (by decide), hY1, x3 27 (by decide), x3 24 (by decide), hX2]
      exact tr
    · rw [x1 18 (by decide), s5 b hb, hP]
      have h9 : aP (vS c) b < 57600 := vp_in_clamp (jpl_in (r6.2 b hb).1)
      exact ⟨nI_clamp (by omega), h9⟩
    · rw [X27, u3 51 (by decide) (by decide) (by decide) (by decide) (by decide)]
      exact z1 Q hQ
  · rw [e5.1, e5.2.1, e5.2.2, mm 53 (by decide), mm 54 (by decide), mm 55 (by decide)]
    exact rS
  · exact on12_of rO hv2 (fun z => by rw [i1, z]; rfl)
theorem ru_back {cnt : Nat} {c m c2 m2 : jM} (r : RU cnt c m) (hs : cSuccB cnt c c2) (ht : mSuccB cnt m m2) : RU cnt c2 m2 := by
  obtain ⟨⟨r1, r2, r3⟩, ⟨r4, r5, r6⟩, r7, ⟨rt1, rt2, rt3⟩, ⟨re1, re2, re3, re4, re5⟩, ⟨t0, t1, t2, t3, t7, t8, t9⟩, rS, rO⟩ := r
  obtain ⟨i1, i2, i3, i4, -⟩ := succB_inv hs
  obtain ⟨j1, j2, j3, -⟩ := mSuccB_inv ht
  have hv2 : aVal (vQ c2) (vS c2) cnt := by rw [i3, i1]; exact aVal_bks r6 cnt (Nat.le_refl _) hs.1
  obtain ⟨hall, g1, s1, s2, s3, s4, s6⟩ := hs
  obtain ⟨-, g2, u1, u2, u3, -, u6⟩ := ht
  obtain ⟨Y1, hY1⟩ : ∃ Y1, Y1 = mVb (aBPl (mQ m) (mS m) cnt) g2 cnt := ⟨_, rfl⟩
  rw [← hY1] at u6
  have cc : ∀ a, (¬ a = 2 ∧ ¬ a = 3 ∧ ¬ (12 ≤ a ∧ a < 18)) ∧ (¬ a = 0 ∧ ¬ a = 24) → c2 a = c a := fun a z => by rw [s6, up2_n z.2.2, up2_n z.2.1, s4 a z.1.1 z.1.2.1 z.1.2.2]
  have c0 : c2 0 = upd (c 0) 8 (c 0 8 - 1) := by rw [s6, up2_n (by decide), up2_s, s4 0 (by decide) (by decide) (by decide)]
  have c24 : c2 24 = upd (c 24) 1 1 := by rw [s6, up2_s, up2_n (by decide), s4 24 (by decide) (by decide) (by decide)]
  have y1 : ∀ a, ¬ a = 39 → Y1 a = g2 a := fun a h1 => by rw [hY1, mVb_o _ _ _ h1]
  have mm : ∀ a, (¬ a = 38 ∧ ¬ a = 42 ∧ ¬ a = 43 ∧ ¬ a = 44 ∧ ¬ a = 46) ∧ (¬ a = 39 ∧ ¬ a = 37) → m2 a = m a := fun a z => by rw [u6, up2_n z.2.2, up2_n z.2.2, y1 a z.2.1, u3 a z.1.1 z.1.2.1 z.1.2.2.1 z.1.2.2.2.1 z.1.2.2.2.2]
  have g37 : Y1 37 = m 37 := by rw [y1 37 (by decide), u3 37 (by decide) (by decide) (by decide) (by decide) (by decide)]
  have m37 : m2 37 = upd (upd (m 37) 4 (m 37 4 - 1)) 21 1 := by rw [u6, up2_s, up2_s, g37]
  have m37o : ∀ i, ¬ i = 21 → ¬ i = 4 → m2 37 i = m 37 i := fun i h1 h2 => by rw [m37, upd_n h1, upd_n h2]
  have e5 := ev_of (g := c2) (h := c) (fun a ha => cc a (by omega))
  refine ⟨⟨?_, ?_, ?_⟩, ⟨?_, ?_, hv2⟩, ?_, ?_, ?_, ?_, ?_, ?_⟩
  · rw [j1, i1, r1, r2]
  · rw [j2, i3, r2]
  · rw [i2, u6, up2_n (by decide), up2_n (by decide), hY1, mVb_39, u3 39 (by decide) (by decide) (by decide) (by decide) (by decide), r3, r1, r2, vL_A]
  · rw [i4]; exact r4
  · rw [j3]; exact r5
  · rw [m37, upd_n (by decide), upd_s, c0, upd_s, r7]
  · rw [cc 4 (by decide), cc 10 (by decide), m37o 7 (by decide) (by decide), mm 41 (by decide)]
    exact ⟨rt1, rt2, rt3⟩
  · rw [cc 19 (by decide), cc 20 (by decide), cc 21 (by decide), cc 22 (by decide), cc 23 (by decide), m37o 14 (by decide) (by decide), mm 47 (by decide), mm 48 (by decide), mm 49 (by decide), mm 50 (by decide)]
    exact ⟨re1, re2, re3, re4, re5⟩
  · rw [c24, cc 25 (by decide), cc 26 (by decide), cc 27 (by decide), m37o 19 (by decide) (by decide), m37o 20 (by decide) (by decide), m37o 24 (by decide) (by decide), m37o 25 (by decide) (by decide), m37o 26 (by decide) (by decide), m37o 27 (by decide) (by decide), m37o 28 (by decide) (by decide), mm 51 (by decide), mm 52 (by decide), upd_n (show ¬ 0 = 1 by decide), upd_s, upd_n (show ¬ 2 = 1 by decide), upd_n (show ¬ 3 = 1 by decide), m37, upd_s]
    exact ⟨t0, ⟨fun z => absurd z (by decide), fun z => absurd z.2 (by decide)⟩, t2, t3, t7, t8, t9⟩
  · rw [e5.1, e5.2.1, e5.2.2, mm 53 (by decide), mm 54 (by decide), mm 55 (by decide)]
    exact rS
  · exact on12_of rO hv2 (fun z => by rw [i1, z]; rfl)
/-- a step that can't be done, in the class -/
theorem ru_failC {cnt : Nat} {c m c2 : jM} (r : RU cnt c m) (e1 : vS c2 = vS c) (e3 : c2 3 = c 3) (e2 : vQ c2 = vQ c) (ho : frB c c2) : RU cnt c2 m := by
  have cc : ∀ a, (¬ a = 2 ∧ ¬ a = 3 ∧ ¬ (12 ≤ a ∧ a < 18) ∧ ¬ a = 18) → c2 a = c a := fun a z => ho a z.1 z.2.1 z.2.2.1 z.2.2.2
  obtain ⟨e5, e6, e7⟩ := ev_of (g := c2) (h := c) (fun a ha => cc a (by omega))
  have hon : onF (c2 12 0) (c2 12 1) := by rw [(on12 c2).1, (on12 c2).2, e1, ← (on12 c).1, ← (on12 c).2]; exact r.2.2.2.2.2.2.2
  refine ⟨?_, ?_, ?_, ?_, ?_, ?_, ?_, hon⟩
  · rw [e1, e2, e3]; exact r.1
  · rw [e1, e2, cc 0 (by decide)]; exact r.2.1
  · rw [cc 0 (by decide)]; exact r.2.2.1
  · rw [cc 4 (by decide), cc 10 (by decide)]; exact r.2.2.2.1
  · rw [cc 19 (by decide), cc 20 (by decide), cc 21 (by decide), cc 22 (by decide), cc 23 (by decide)]; exact r.2.2.2.2.1
  · rw [cc 24 (by decide), cc 25 (by decide), cc 26 (by decide), cc 27 (by decide)]; exact r.2.2.2.2.2.1
  · rw [e5, e6, e7]; exact r.2.2.2.2.2.2.1
theorem ru_failM {cnt : Nat} {c m m2 : jM} (r : RU cnt c m) (e1 : mS m2 = mS m) (e2 : mQ m2 = mQ m) (ho : frM m m2) : RU cnt c m2 := by
  have cc : ∀ a, (¬ a = 38 ∧ ¬ a = 42 ∧ ¬ a = 43 ∧ ¬ a = 44 ∧ ¬ a = 46) → m2 a = m a := fun a z => ho a z.1 z.2.1 z.2.2.1 z.2.2.2.1 z.2.2.2.2
  unfold RU
  rw [e1, e2, cc 37 (by decide), cc 39 (by decide), cc 41 (by decide), cc 47 (by decide), cc 48 (by decide), cc 49 (by decide), cc 50 (by decide), cc 51 (by decide), cc 52 (by decide), cc 53 (by decide), cc 54 (by decide), cc 55 (by decide)]
  exact r
-- which cells steps touch
theorem fr_cS {cnt : Nat} {c c2 : jM} (hs : cSucc cnt c c2) {a : Nat} (ha : 37 ≤ a) : c2 a = c a := by
  obtain ⟨-, g1, -, -, -, s4, -, s6⟩ := hs
  rw [s6, (cNt_o _ cnt cnt).1 a (by omega), jtr_o _ (by omega) (by omega), up2_n (by omega), s4 a (by omega) (by omega) (by omega) (by omega)]
theorem fr_cB {cnt : Nat} {c c2 : jM} (hs : cSuccB cnt c c2) {a : Nat} (ha : 37 ≤ a) : c2 a = c a := by
  obtain ⟨-, g1, -, -, -, s4, s6⟩ := hs
  rw [s6, up2_n (by omega), up2_n (by omega), s4 a (by omega) (by omega) (by omega)]
theorem fr_mS {cnt : Nat} {c c2 : jM} (hs : mSucc cnt c c2) {a : Nat} (ha : a < 37) : c2 a = c a := by
  obtain ⟨-, g1, -, -, s4, -, s6⟩ := hs
  rw [s6, (mMt_o _ cnt cnt).1 a (by omega), up2_n (by omega), mVs_o _ _ _ (by omega) (by omega), s4 a (by omega) (by omega) (by omega) (by omega) (by omega)]
theorem fr_mB {cnt : Nat} {c c2 : jM} (hs : mSuccB cnt c c2) {a : Nat} (ha : a < 37) : c2 a = c a := by
  obtain ⟨-, g1, -, -, s4, -, s6⟩ := hs
  rw [s6, up2_n (by omega), up2_n (by omega), mVb_o _ _ _ (by omega), s4 a (by omega) (by omega) (by omega) (by omega) (by omega)]
theorem fr_it {S : jM → jM → Prop} {p : Nat → Prop} (hS : ∀ c c2, S c c2 → ∀ a, p a → c2 a = c a) {h : jM} : ∀ (k : Nat) (g : jM), cIt S h k g → ∀ a, p a → g a = h a
  | 0, g, hg, a, _ => by rw [show g = h from hg]
  | k + 1, g, hg, a, ha => by
    obtain ⟨g0, h0, hs⟩ := hg
    rw [hS g0 g hs a ha, fr_it hS k g0 h0 a ha]
theorem it_mid {S : jM → jM → Prop} {h : jM} : ∀ (k : Nat) (g : jM), cIt S h k g → ∀ j, j < k → ∃ a b, cIt S h j a ∧ S a b
  | 0, _, _, j, hj => absurd hj (by omega)
  | k + 1, g, hg, j, hj => by
    obtain ⟨g0, h0, hs⟩ := hg
    by_cases e : j = k
    · subst e; exact ⟨g0, g, h0, hs⟩
    · exact it_mid k g0 h0 j (by omega)
theorem ru_it {cnt : Nat} {h m : jM} (hc6 : cnt ≤ 6) (r : RU cnt h m) (hm0 : 0 ≤ (h 19 0).toInt) : ∀ (k : Nat), (h 19 0).toInt + 6 * k + 6 < 2147483648 → ∀ c d, cIt (cSucc cnt) h k c → cIt (mSucc cnt) m k d → RU cnt c d
  | 0, _, c, d, hc, hd => by
    rw [show c = h from hc, show d = m from hd]; exact r
  | k + 1, hb, c, d, hc, hd => by
    obtain ⟨c0, hc0, hs⟩ := hc
    obtain ⟨d0, hd0, ht⟩ := hd
    have ih := ru_it hc6 r hm0 k (by omega) c0 d0 hc0 hd0
    obtain ⟨-, -, b3, b4⟩ := it_inv hc6 r.2.1.1 r.2.1.2.2 hm0 k (by omega) c0 hc0
    exact ru_step hc6 ih b3 (by omega) hs ht
theorem ru_itB {cnt : Nat} {h m : jM} (r : RU cnt h m) : ∀ (k : Nat) c d, cIt (cSuccB cnt) h k c → cIt (mSuccB cnt) m k d → RU cnt c d ∧ c 19 = h 19
  | 0, c, d, hc, hd => by
    rw [show c = h from hc, show d = m from hd]; exact ⟨r, rfl⟩
  | k + 1, c, d, hc, hd => by
    obtain ⟨c0, hc0, hs⟩ := hc
    obtain ⟨d0, hd0, ht⟩ := hd
    obtain ⟨ih, e⟩ := ru_itB r k c0 d0 hc0 hd0
    exact ⟨ru_back ih hs ht, by rw [(succB_inv hs).2.2.2.2, e]⟩
theorem CP_RU {k : Nat} {h : jM} (c : CP k h) {cnt : Nat} (e0 : h 0 7 = nI cnt) (e8 : h 37 8 = nI cnt) (hv : aVal (vQ h) (vS h) cnt) : RU cnt h h := by
  obtain ⟨u0, u1, u2, u3, u4, u5⟩ := c.2.2.2.2.2.1
  exact ⟨c.1, ⟨e0, e8, hv⟩, c.2.2.2.1, c.2.2.2.2.1, ⟨u0, u2, u3, u4, u5⟩, c.2.2.2.2.2.2⟩
theorem RU_CP {k : Nat} {h : jM} {cnt : Nat} (hc6 : cnt ≤ 6) (r : RU cnt h h) (hk : h 1 0 = 0 ∨ h 1 0 = 1) (hb : 0 ≤ (h 19 0).toInt ∧ (h 19 0).toInt ≤ 13000 * (k : Int)) : CP k h :=
  ⟨r.1, ⟨cnt, hc6, r.2.1⟩, hk, r.2.2.1, r.2.2.2.1, ⟨r.2.2.2.2.1.1, hb, r.2.2.2.2.1.2⟩, r.2.2.2.2.2⟩
