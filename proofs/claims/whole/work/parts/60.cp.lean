/-! ===== run: coupled ===== -/
theorem dir_ok {k cnt w : Nat} {h : jM} {K : List jK} {n : Int32} (c : CP k h) (hc6 : cnt ≤ 6) (hw : w ≤ 2000) {SC SM FC FM : jM → jM → Prop}
    (hsim : ∀ (j : Nat) (x d m0 : jM), (∀ a, 37 ≤ a → m0 a = h a) → j ≤ 2000 → cIt SC h j x → cIt SM m0 j d → RU cnt x d ∧ 0 ≤ (x 19 0).toInt ∧ (x 19 0).toInt ≤ (h 19 0).toInt + 6 * j)
    (hcon1 : ∀ x x2 d d2, RU cnt x d → SC x x2 → FM d d2 → False) (hcon2 : ∀ x x2 d d2, RU cnt x d → FC x x2 → SM d d2 → False)
    (hfail : ∀ x x2 d d2, RU cnt x d → FC x x2 → FM d d2 → RU cnt x2 d2 ∧ x2 19 = x 19)
    (frC : ∀ x x2, SC x x2 → ∀ a, (37 ≤ a ∨ a = 1) → x2 a = x a) (frF : ∀ x x2, FC x x2 → ∀ a, (37 ≤ a ∨ a = 1) → x2 a = x a) (frM2 : ∀ x x2, SM x x2 → ∀ a, a < 37 → x2 a = x a) (frG : ∀ x x2, FM x x2 → ∀ a, a < 37 → x2 a = x a)
    (hR : RU cnt h h)
    (hT : ∀ (g : jM) (Q2 : jPost), RU cnt h g → (∀ j' g1, cIt SM g j' g1 → (j' = w → Q2 (some (.int (nI j'))) K g1) ∧ (j' < w → ∀ g2, FM g1 g2 → Q2 (some (.int (if j' = 0 then -4 else nI j'))) K g2)) → T_X7_run [.ref 37, .int n] K g Q2)
    {Q : jPost} (hQ : ∀ (v : Value) (h1 : jM), (∀ Q2 : jPost, (∀ g, CP (k + 1) g → Q2 (some v) K g) → T_X7_run [.ref 37, .int n] K h1 Q2) → Q (some v) K h1) :
    ∀ j g0, cIt SC h j g0 → (j = w → Q (some (.int (nI j))) K g0) ∧ (j < w → ∀ g, FC g0 g → Q (some (.int (if j = 0 then -4 else nI j))) K g) := by
  intro j g0 hit
  have hb := c.2.2.2.2.2.1.2.1
  have hk1 := c.2.2.1
  refine ⟨fun hj => hQ _ _ (fun Q2 h2 => ?_), fun hj g hf => hQ _ _ (fun Q2 h2 => ?_)⟩
  · subst hj
    have fm : ∀ a, 37 ≤ a → g0 a = h a := fun a ha => fr_it (p := fun a => 37 ≤ a ∨ a = 1) frC j g0 hit a (Or.inl ha)
    refine hT g0 Q2 (RU_of hR (fun _ _ => rfl) (fun a h1 _ => fm a h1)) (fun j' g1 hit' => ⟨fun hj' => ?_, fun hj' g2 hf' => ?_⟩)
    · subst hj'
      obtain ⟨r, b1, b2⟩ := hsim j' g0 g1 g0 fm hw hit hit'
      have fc : ∀ a, a < 37 → g1 a = g0 a := fr_it (p := fun a => a < 37) frM2 j' g1 hit'
      refine h2 _ (RU_CP hc6 (RU_of r fc (fun _ _ _ => rfl)) ?_ ?_)
      · rw [fc 1 (by decide), fr_it (p := fun a => 37 ≤ a ∨ a = 1) frC j' g0 hit 1 (Or.inr rfl)]
        exact hk1
      · rw [fc 19 (by decide)]
        omega
    · obtain ⟨a, b, ha, hs⟩ := it_mid j g0 hit j' hj'
      obtain ⟨r, -, -⟩ := hsim j' a g1 g0 fm (by omega) ha hit'
      exact (hcon1 _ _ _ _ r hs hf').elim
  · have fm : ∀ a, 37 ≤ a → g a = h a := fun a ha => by
      rw [frF g0 g hf a (Or.inl ha)]
      exact fr_it (p := fun a => 37 ≤ a ∨ a = 1) frC j g0 hit a (Or.inl ha)
    refine hT g Q2 (RU_of hR (fun _ _ => rfl) (fun a h1 _ => fm a h1)) (fun j' g1 hit' => ⟨fun hj' => ?_, fun hj' g2 hf' => ?_⟩)
    · subst hj'
      obtain ⟨a, b, ha, hs⟩ := it_mid j' g1 hit' j hj
      obtain ⟨r, -, -⟩ := hsim j g0 a g fm (by omega) hit ha
      exact (hcon2 _ _ _ _ r hf hs).elim
    · rcases Nat.lt_trichotomy j' j with q | q | q
      · obtain ⟨a, b, ha, hs⟩ := it_mid j g0 hit j' q
        obtain ⟨r, -, -⟩ := hsim j' a g1 g fm (by omega) ha hit'
        exact (hcon1 _ _ _ _ r hs hf').elim
      · subst q
        obtain ⟨r, b1, b2⟩ := hsim j' g0 g1 g fm (by omega) hit hit'
        obtain ⟨r2, e19⟩ := hfail _ _ _ _ r hf hf'
        have fc : ∀ a, a < 37 → g2 a = g a := fun a ha => by
          rw [frG g1 g2 hf' a ha]
          exact fr_it (p := fun a => a < 37) frM2 j' g1 hit' a ha
        refine h2 _ (RU_CP hc6 (RU_of r2 fc (fun _ _ _ => rfl)) ?_ ?_)
        · rw [fc 1 (by decide), frF g0 g hf 1 (Or.inr rfl), fr_it (p := fun a => 37 ≤ a ∨ a = 1) frC j' g0 hit 1 (Or.inr rfl)]
          exact hk1
        · rw [fc 19 (by decide), e19]
          omega
      · obtain ⟨a, b, ha, hs⟩ := it_mid j' g1 hit' j q
        obtain ⟨r, -, -⟩ := hsim j g0 a g fm (by omega) hit ha
        exact (hcon2 _ _ _ _ r hf hs).elim
theorem fr_cS1 {cnt : Nat} {c c2 : jM} (hs : cSucc cnt c c2) : c2 1 = c 1 := by
  obtain ⟨-, g1, -, -, -, s4, -, s6⟩ := hs
  rw [s6, (cNt_o _ cnt cnt).1 1 (by decide), jtr_o _ (by decide) (by decide), up2_n (by decide), s4 1 (by decide) (by decide) (by decide) (by decide)]
theorem fr_cB1 {cnt : Nat} {c c2 : jM} (hs : cSuccB cnt c c2) : c2 1 = c 1 := by
  obtain ⟨-, g1, -, -, -, s4, s6⟩ := hs
  rw [s6, up2_n (by decide), up2_n (by decide), s4 1 (by decide) (by decide) (by decide)]
theorem pm_no {n : Int32} {w w2 : Nat} (h0 : ¬ n = 0) (hw : w ≤ 2000) (hw2 : w2 ≤ 2000) (e1 : n = nI w) (e2 : n = -nI w2) : False := by
  have t1 : n.toInt = (w : Int) := by rw [e1, nI_toInt (by omega)]
  have t2 : n.toInt = -(w2 : Int) := by rw [e2, ti_neg (by rw [nI_toInt (by omega)]; omega), nI_toInt (by omega)]
  apply h0
  apply Int32.toInt_inj.mp
  rw [t1]
  show (w : Int) = 0
  omega
theorem pm_inj {w w2 : Nat} (hw : w ≤ 2000) (hw2 : w2 ≤ 2000) (e : nI w = nI w2) : w2 = w := ((nI_eq (by omega) (by omega)).mp e).symm
theorem pm_neg {w w2 : Nat} (hw : w ≤ 2000) (hw2 : w2 ≤ 2000) (e : -nI w = -nI w2) : w2 = w := by
  have t1 : (-nI w).toInt = -(w : Int) := by rw [ti_neg (by rw [nI_toInt (by omega)]; omega), nI_toInt (by omega)]
  have t2 : (-nI w2).toInt = -(w2 : Int) := by rw [ti_neg (by rw [nI_toInt (by omega)]; omega), nI_toInt (by omega)]
  rw [e, t2] at t1
  omega
theorem cp_run {k : Nat} (hk : k ≤ 600) {h : jM} {K : List jK} (c : CP k h) (hM : jXM K) (n : Int32) : cpl k K h T_X6_run T_X7_run [.ref 0, .int n] [.ref 37, .int n] := by
  intro Q hQ
  obtain ⟨cnt, hc6, e0, e8, hv⟩ := c.2.1
  have hb := c.2.2.2.2.2.1.2.1
  have hk1 := c.2.2.1
  have hR := CP_RU c e0 e8 hv
  -- what the reference asks for at a memory whose reference's part is the beginning's
  have mfacts : ∀ g, RU cnt h g → g 37 8 = nI cnt ∧ (g 37 0 = 0 ∨ g 37 0 = 1) ∧ aVal (mQ g) (mS g) cnt ∧ (0 ≤ (g 37 14).toInt ∧ (g 37 14).toInt + 13000 < 2147483648) := fun g r => by
    have q0 : g 37 0 = h 1 0 := congrArg (fun q : aQ => q.1) r.1.2.1
    refine ⟨r.2.1.2.1, by rw [q0]; exact hk1, by rw [r.1.1, r.1.2.1]; exact hv, ?_⟩
    rw [r.2.2.2.2.1.1]
    omega
  show _ ∧ _
  refine ⟨rfl, jXM_X hM, cnt, hc6, e0, hv, by omega, fun bad => hQ _ _ (fun Q2 h2 => ?_), fun w j g0 n0 hw hn hit => ?_, fun w j g0 n0 hw hn hit => ?_⟩
  · obtain ⟨m1, m2, m3, m4⟩ := mfacts h hR
    show _ ∧ _
    refine ⟨rfl, hM, cnt, hc6, m1, m2, m3, m4, fun _ => h2 _ (CP_mono c), fun w j g0 n0 hw hn hit => ?_, fun w j g0 n0 hw hn hit => ?_⟩
    · rcases bad with z | z
      · exact absurd z n0
      · exfalso
        apply z
        have t1 : n.toInt = (w : Int) := by rw [hn, nI_toInt (by omega)]
        rw [Int32.le_iff_toInt_le, Int32.le_iff_toInt_le, t1]
        exact ⟨by show (-2000 : Int) ≤ _; omega, by show _ ≤ (2000 : Int); omega⟩
    · rcases bad with z | z
      · exact absurd z n0
      · exfalso
        apply z
        have t1 : n.toInt = -(w : Int) := by rw [hn, ti_neg (by rw [nI_toInt (by omega)]; omega), nI_toInt (by omega)]
        rw [Int32.le_iff_toInt_le, Int32.le_iff_toInt_le, t1]
        exact ⟨by show (-2000 : Int) ≤ _; omega, by show _ ≤ (2000 : Int); omega⟩
  · refine dir_ok (n := n) (SC := cSucc cnt) (SM := mSucc cnt) (FC := cFail cnt) (FM := mFail cnt) c hc6 hw ?_ ?_ ?_ ?_ ?_ ?_ ?_ ?_ hR ?_ hQ j g0 hit
    · intro i x d m0 hm hi hx hd
      have r := ru_it hc6 (RU_of hR (c2 := h) (m2 := m0) (fun _ _ => rfl) (fun a h1 _ => hm a h1)) hb.1 i (by omega) x d hx hd
      obtain ⟨-, -, b3, b4⟩ := it_inv hc6 e0 hv hb.1 i (by omega) x hx
      exact ⟨r, b3, b4⟩
    · intro x x2 d d2 r hs hf
      apply hf.1
      rw [r.1.1, r.1.2.1]
      exact hs.1
    · intro x x2 d d2 r hf hs
      apply hf.1
      have := hs.1
      rw [r.1.1, r.1.2.1] at this
      exact this
    · intro x x2 d d2 r hf hg
      exact ⟨ru_failM (ru_failC r hf.2.1 hf.2.2.1 hf.2.2.2.1 hf.2.2.2.2) hg.2.1 hg.2.2.1 hg.2.2.2, hf.2.2.2.2 19 (by decide) (by decide) (by decide) (by decide)⟩
    · intro x x2 hs a ha
      rcases ha with ha | ha
      · exact fr_cS hs ha
      · subst ha; exact fr_cS1 hs
    · intro x x2 hf a ha
      exact hf.2.2.2.2 a (by omega) (by omega) (by omega) (by omega)
    · exact fun x x2 hs a ha => fr_mS hs ha
    · intro x x2 hf a ha
      exact hf.2.2.2 a (by omega) (by omega) (by omega) (by omega) (by omega)
    · intro g Q2 r hq
      obtain ⟨m1, m2, m3, m4⟩ := mfacts g r
      show _ ∧ _
      refine ⟨rfl, hM, cnt, hc6, m1, m2, m3, m4, fun bad => ?_, fun w' j' g1 _ hw' hn' hit' => ?_, fun w' j' g1 _ hw' hn' hit' => (pm_no n0 hw hw' hn hn').elim⟩
      · exfalso
        rcases bad with z | z
        · exact n0 z
        · apply z
          have t1 : n.toInt = (w : Int) := by rw [hn, nI_toInt (by omega)]
          rw [Int32.le_iff_toInt_le, Int32.le_iff_toInt_le, t1]
          exact ⟨by show (-2000 : Int) ≤ _; omega, by show _ ≤ (2000 : Int); omega⟩
      · have e := pm_inj hw hw' (hn.symm.trans hn')
        subst e
        exact hq j' g1 hit'
  · refine dir_ok (n := n) (SC := cSuccB cnt) (SM := mSuccB cnt) (FC := cFailB cnt) (FM := mFailB cnt) c hc6 hw ?_ ?_ ?_ ?_ ?_ ?_ ?_ ?_ hR ?_ hQ j g0 hit
    · intro i x d m0 hm hi hx hd
      obtain ⟨r, e19⟩ := ru_itB (RU_of hR (c2 := h) (m2 := m0) (fun _ _ => rfl) (fun a h1 _ => hm a h1)) i x d hx hd
      refine ⟨r, ?_, ?_⟩
      · rw [e19]; exact hb.1
      · rw [e19]; omega
    · intro x x2 d d2 r hs hf
      apply hf.1
      rw [r.1.1, r.1.2.1]
      exact hs.1
    · intro x x2 d d2 r hf hs
      apply hf.1
      have := hs.1
      rw [r.1.1, r.1.2.1] at this
      exact this
    · intro x x2 d d2 r hf hg
      exact ⟨ru_failM (ru_failC r hf.2.1 hf.2.2.1 hf.2.2.2.1 (fun a a1 a2 a3 a4 => hf.2.2.2.2 a a1 a2 a3)) hg.2.1 hg.2.2.1 hg.2.2.2, hf.2.2.2.2 19 (by decide) (by decide) (by decide)⟩
    · intro x x2 hs a ha
      rcases ha with ha | ha
      · exact fr_cB hs ha
      · subst ha; exact fr_cB1 hs
    · intro x x2 hf a ha
      exact hf.2.2.2.2 a (by omega) (by omega) (by omega)
    · exact fun x x2 hs a ha => fr_mB hs ha
    · intro x x2 hf a ha
      exact hf.2.2.2 a (by omega) (by omega) (by omega) (by omega) (by omega)
    · intro g Q2 r hq
      obtain ⟨m1, m2, m3, m4⟩ := mfacts g r
      show _ ∧ _
      refine ⟨rfl, hM, cnt, hc6, m1, m2, m3, m4, fun bad => ?_, fun w' j' g1 _ hw' hn' hit' => (pm_no n0 hw' hw hn' hn).elim, fun w' j' g1 _ hw' hn' hit' => ?_⟩
      · exfalso
        rcases bad with z | z
        · exact n0 z
        · apply z
          have t1 : n.toInt = -(w : Int) := by rw [hn, ti_neg (by rw [nI_toInt (by omega)]; omega), nI_toInt (by omega)]
          rw [Int32.le_iff_toInt_le, Int32.le_iff_toInt_le, t1]
          exact ⟨by show (-2000 : Int) ≤ _; omega, by show _ ≤ (2000 : Int); omega⟩
      · have e := pm_neg hw hw' (hn.symm.trans hn')
        subst e
        exact hq j' g1 hit'
