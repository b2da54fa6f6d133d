/-! ===== rule, floor, mark: coupled ===== -/
theorem jtof_ok (x : Int) {d : Int32} (hd : d = 4 ∨ d = 6) : (jtof x d = -1 ∧ jtof x d < 0) ∨ (¬ jtof x d = -1 ∧ ¬ jtof x d < 0 ∧ 0 ≤ (jtof x d).toInt ∧ (jtof x d).toInt < d.toInt) := by
  unfold jtof
  rcases hd with rfl | rfl
  · by_cases a1 : x = 76
    · rw [if_pos a1]; decide
    · rw [if_neg a1]
      by_cases a2 : x = 77
      · rw [if_pos a2]; decide
      · rw [if_neg a2]
        by_cases a3 : x = 78
        · rw [if_pos a3]; decide
        · rw [if_neg a3]
          by_cases a4 : x = 82
          · rw [if_pos a4]; decide
          · rw [if_neg a4]
            by_cases a5 : x = 83
            · rw [if_pos a5]; decide
            · rw [if_neg a5]
              by_cases a6 : x = 85
              · rw [if_pos a6]; decide
              · rw [if_neg a6]; decide
  · by_cases a1 : x = 76
    · rw [if_pos a1]; decide
    · rw [if_neg a1]
      by_cases a2 : x = 77
      · rw [if_pos a2]; decide
      · rw [if_neg a2]
        by_cases a3 : x = 78
        · rw [if_pos a3]; decide
        · rw [if_neg a3]
          by_cases a4 : x = 82
          · rw [if_pos a4]; decide
          · rw [if_neg a4]
            by_cases a5 : x = 83
            · rw [if_pos a5]; decide
            · rw [if_neg a5]
              by_cases a6 : x = 85
              · rw [if_pos a6]; decide
              · rw [if_neg a6]; decide
theorem jdirs_46 (h : jM) : jdirs h = 4 ∨ jdirs h = 6 := by
  unfold jdirs
  by_cases e : h 1 0 = 1
  · rw [if_pos e]; exact Or.inr rfl
  · rw [if_neg e]; exact Or.inl rfl
theorem jtof_iff (x : Int) {d : Int32} (hd : d = 4 ∨ d = 6) : jtof x d < 0 ↔ jtof x d = -1 := by
  rcases jtof_ok x hd with ⟨a, b⟩ | ⟨a, b, -⟩
  · exact ⟨fun _ => a, fun _ => b⟩
  · exact ⟨fun z => absurd z b, fun z => absurd z a⟩
theorem mSet_at (g : jM) (b : Nat) : ∀ (n i : Nat), mSet g b n 40 i = if b ≤ i ∧ i < b + n then jtof (g 41 (i - b)).toInt (jdM g) else g 40 i
  | 0, i => by
    rw [if_neg (by omega)]; rfl
  | n + 1, i => by
    rw [mSet_s, up2_s]
    by_cases e : i = b + n
    · subst e
      rw [upd_s, if_pos (by omega), show b + n - b = n by omega]
    · rw [upd_n e, mSet_at g b n i]
      by_cases q : b ≤ i ∧ i < b + n
      · rw [if_pos q, if_pos (by omega)]
      · rw [if_neg q, if_neg (by omega)]
theorem CP_turn {k : Nat} {h : jM} (c : CP k h) {r q : Nat} (hr : r < 4) (hq : (q : Int) < (h 1 1).toInt) : h 40 (12 * r + q) = h (6 + r) q := by
  have e := congrFun (congrFun (congrArg (fun q : aQ => q.2.2.1) c.1.2.1) r) q
  have e1 : (mQ h).2.2.1 r q = h 40 (12 * r + q) := if_pos ⟨hr, by rw [(CP_kind c).2]; exact hq⟩
  have e2 : (vQ h).2.2.1 r q = h (6 + r) q := if_pos ⟨hr, hq⟩
  exact e1.symm.trans (e.trans e2)
/-- rules change alone -/
theorem CP_rules {k : Nat} {h g : jM} (c : CP k h) (ho : ∀ a, ¬ a = 4 → ¬ (6 ≤ a ∧ a < 10) → ¬ a = 24 → ¬ a = 37 → ¬ a = 40 → g a = h a) (h24 : ∀ i, ¬ i = 1 → g 24 i = h 24 i) (h241 : g 24 1 = 1) (h7 : ∀ i, ¬ i = 7 → ¬ i = 20 → g 37 i = h 37 i) (h20 : g 37 20 = 1) (hT : pT (g 4 2) (g 10) (g 37 7) (g 41))
    (hr : ∀ r q : Nat, r < 4 → (q : Int) < (h 1 1).toInt → g 40 (12 * r + q) = g (6 + r) q ∧ 0 ≤ (g (6 + r) q).toInt ∧ (g (6 + r) q).toInt < (aDn (h 1 0) : Int)) : CP (k + 1) g := by
  have o := fun a (q : ((¬ a = 4 ∧ ¬ (6 ≤ a ∧ a < 10)) ∧ ¬ a = 24) ∧ (¬ a = 37 ∧ ¬ a = 40)) => ho a q.1.1.1 q.1.1.2 q.1.2 q.2.1 q.2.2
  have e1 : vS g = vS h := vS_of (o 2 (by decide)) (fun a ha => o a (by omega))
  have e3 : mS g = mS h := mS_of2 (o 38 (by decide)) (o 42 (by decide)) (o 43 (by decide)) (o 44 (by decide))
  obtain ⟨e5, e6, e7⟩ := ev_of (g := g) (h := h) (fun a ha => o a (by omega))
  have eX : vX g 3 = vX h 3 := vX_of (fun a ha => o a (by omega)) 3
  obtain ⟨k0, k1⟩ := CP_kind c
  have e45 : cut6 (g 45) = vX h 3 := by
    rw [o 45 (by decide)]
    exact congrArg (fun q : aQ => q.2.2.2) c.1.2.1
  have eQ : mQ g = vQ g := by
    unfold mQ vQ
    rw [h7 0 (by decide) (by decide), h7 1 (by decide) (by decide), k0, k1, o 1 (by decide), eX, e45]
    have : (fun r q : Nat => if r < 4 ∧ (q : Int) < (h 1 1).toInt then g 40 (12 * r + q) else 0) = (fun r q : Nat => if r < 4 ∧ (q : Int) < (h 1 1).toInt then g (6 + r) q else 0) := by
      funext r q
      by_cases z : r < 4 ∧ (q : Int) < (h 1 1).toInt
      · rw [if_pos z, if_pos z, (hr r q z.1 z.2).1]
      · rw [if_neg z, if_neg z]
    rw [this]
  obtain ⟨cnt, hc6, e0, e8, hv⟩ := c.2.1
  have hv2 : aVal (vQ g) (vS g) cnt := by
    rw [e1]
    have q1 : (vQ g).1 = (vQ h).1 := by show g 1 0 = h 1 0; rw [o 1 (by decide)]
    have q2 : (vQ g).2.1 = (vQ h).2.1 := by show g 1 1 = h 1 1; rw [o 1 (by decide)]
    have q3 : (vQ g).2.2.2 = (vQ h).2.2.2 := eX
    refine ⟨⟨by rw [q2]; exact hv.1.1, by rw [q2]; exact hv.1.2.1, fun r q h1 h2 => ?_⟩, fun i hi => ?_⟩
    · rw [q2] at h2
      have : (vQ g).2.2.1 r q = g (6 + r) q := if_pos ⟨h1, by rw [o 1 (by decide)]; exact h2⟩
      rw [this, q1]
      exact (hr r q h1 h2).2
    · unfold aAn
      rw [q1, q3]
      exact hv.2 i hi
  have hM := c.2.2.2.2.2.2.1
  unfold CP CPR
  rw [e1, e3, e5, e6, e7, eQ, o 3 (by decide), o 0 (by decide), o 1 (by decide), o 19 (by decide), o 20 (by decide), o 21 (by decide), o 22 (by decide), o 23 (by decide), o 25 (by decide), o 26 (by decide), o 27 (by decide), o 12 (by decide), o 39 (by decide), o 47 (by decide), o 48 (by decide), o 49 (by decide), o 50 (by decide), o 51 (by decide), o 52 (by decide), o 53 (by decide), o 54 (by decide), o 55 (by decide), h7 8 (by decide) (by decide), h7 4 (by decide) (by decide), h7 14 (by decide) (by decide), h7 19 (by decide) (by decide), h7 21 (by decide) (by decide), h7 24 (by decide) (by decide), h7 25 (by decide) (by decide), h7 26 (by decide) (by decide), h7 27 (by decide) (by decide), h7 28 (by decide) (by decide), h24 0 (by decide), h24 2 (by decide), h24 3 (by decide), h241, h20]
  refine ⟨⟨c.1.1, rfl, c.1.2.2⟩, ⟨cnt, hc6, e0, e8, by rw [e1] at hv2; exact hv2⟩, c.2.2.1, c.2.2.2.1, hT, pE_mono c.2.2.2.2.2.1, ⟨hM.1, ⟨fun z => absurd z (by decide), fun z => absurd z.1 (by decide)⟩, hM.2.2⟩, c.2.2.2.2.2.2.2⟩
theorem aDn_dirs (h : jM) : (aDn (h 1 0) : Int) = (jdirs h).toInt := by
  unfold aDn jdirs
  by_cases e : h 1 0 = 1
  · rw [if_pos e, if_pos e]; rfl
  · rw [if_neg e, if_neg e]; rfl
theorem cp_rule {k : Nat} {h : jM} {K : List jK} (c : CP k h) (hM : jXM K) (r : Int32) : cpl k K h T_X6_rule T_X7_rule [.ref 0, .int r] [.ref 37, .int r] := by
  intro Q hQ
  obtain ⟨e7, bT, e41⟩ := c.2.2.2.2.1
  obtain ⟨k0, k1⟩ := CP_kind c
  obtain ⟨ed, eD⟩ := CP_dirs c
  obtain ⟨N, hN, eN⟩ := jnat (N := 12) bT.1 (by have := bT.2; omega)
  have tN : (h 4 2).toInt.toNat = N := by rw [eN, nI_toInt (by omega)]; rfl
  have fit : ∀ g : jM, g 41 = h 41 → g 37 0 = h 37 0 → ((nI N = h 37 1 ∧ mLet g N) ↔ jfits h (h 1 1) (jdirs h)) := by
    intro g g41 g37
    have gd : jdM g = jdirs h := by
      rw [← ed]; unfold jdM; rw [g37]
    unfold jfits mLet
    rw [tN, eN, k1, gd, g41, e41]
    constructor
    · exact fun z => ⟨z.1, fun i hi y => z.2 i hi ((jtof_iff _ (jdirs_46 h)).mpr y)⟩
    · exact fun z => ⟨z.1, fun i hi y => z.2 i hi ((jtof_iff _ (jdirs_46 h)).mp y)⟩
  show _ ∧ _
  refine ⟨rfl, jXM_X hM, bT, fun n => hQ _ _ (fun Q2 h2 => ?_), fun y nf => hQ _ _ (fun Q2 h2 => ?_), fun y yf => hQ _ _ (fun Q2 h2 => ?_)⟩
  · show _ ∧ _
    exact ⟨rfl, hM, N, hN, by rw [e7, eN], fun _ => h2 _ (CP_mono c), fun y => absurd y n⟩
  · show _ ∧ _
    refine ⟨rfl, hM, N, hN, by rw [up2_n (by decide), e7, eN], fun n => absurd y n, fun _ g hg => ⟨fun _ => ?_, fun z => ?_⟩⟩
    · subst hg
      refine h2 _ (CP_tape c (fun a a1 a2 a3 a4 => by rw [up2_n a3, up2_n a1]) (fun i hi => by rw [up2_s, upd_n hi, up2_n (by decide)]) ?_)
      rw [up2_n (by decide), up2_s, upd_s, up2_n (by decide), up2_n (by decide), up2_s, upd_s, up2_n (by decide), up2_n (by decide)]
      exact ⟨rfl, ⟨by decide, by decide⟩, e41⟩
    · subst hg
      rw [up2_n (show ¬ 37 = 4 by decide)] at z
      exact absurd ((fit _ (by rw [up2_n (by decide), up2_n (by decide)]) (by rw [up2_s, upd_n (by decide), up2_n (by decide)])).mp z) nf
  · have hn : nI N = h 1 1 := by rw [← eN]; exact yf.1
    obtain ⟨r', hr', rfl⟩ := sh_of y
    have hset : ∀ a, ¬ (6 ≤ a ∧ a < 10) → jset h True (nI r').toNatClampNeg (jdirs h) (h 4 2).toInt.toNat a = h a := by
      intro a ha
      funext i
      unfold jset
      rw [if_neg]
      rintro ⟨-, q, -⟩
      rw [nI_clamp (by omega)] at q
      omega
    show _ ∧ _
    refine ⟨rfl, hM, N, hN, by rw [up2_n (by decide), up2_n (by decide), hset 37 (by decide), e7, eN], fun n => absurd y n, fun _ g hg => ⟨fun z => ?_, fun z => ?_⟩⟩
    · refine absurd ?_ z
      rw [up2_n (show ¬ 37 = 24 by decide), up2_n (show ¬ 37 = 4 by decide), hset 37 (by decide)]
      refine (fit g ?_ ?_).mpr yf
      · rw [hg, up2_n (by decide), up2_n (by decide), up2_n (by decide), hset 41 (by decide)]
      · rw [hg, up2_s, upd_n (by decide), up2_n (by decide), up2_n (by decide), hset 37 (by decide)]
    · rw [hn]
      refine h2 _ ?_
      rw [nI_clamp (by omega)] at hg ⊢
      have ro : ∀ a, ¬ a = 37 → ¬ a = 40 → up2 (mSet g (12 * r') N) 37 20 1 a = g a := fun a a1 a2 => by rw [up2_n a1, mSet_o _ _ _ a2]
      have go : ∀ a, ¬ a = 37 → ¬ a = 24 → ¬ a = 4 → g a = jset h True r' (jdirs h) (h 4 2).toInt.toNat a := fun a a1 a2 a3 => by rw [hg, up2_n a1, up2_n a2, up2_n a3]
      have hset' : ∀ a, ¬ (6 ≤ a ∧ a < 10) → jset h True r' (jdirs h) (h 4 2).toInt.toNat a = h a := fun a ha => by
        have := hset a ha
        rw [nI_clamp (by omega)] at this
        exact this
      have g37 : ∀ i, ¬ i = 7 → g 37 i = h 37 i := fun i hi => by rw [hg, up2_s, upd_n hi, up2_n (by decide), up2_n (by decide), hset' 37 (by decide)]
      have g24 : g 24 = upd (h 24) 1 1 := by rw [hg, up2_n (by decide), up2_s, up2_n (by decide), hset' 24 (by decide)]
      have g4 : g 4 2 = 0 := by rw [hg, up2_n (by decide), up2_n (by decide), up2_s, upd_s]
      have gd : jdM g = jdirs h := by rw [← ed]; unfold jdM; rw [g37 0 (by decide)]
      refine CP_rules c (fun a a1 a2 a3 a4 a5 => ?_) (fun i hi => ?_) ?_ (fun i i1 i2 => ?_) ?_ ?_ (fun r q hr hq => ?_)
      · rw [ro a a4 a5, go a a4 a3 a1, hset' a a2]
      · rw [ro 24 (by decide) (by decide), g24, upd_n hi]
      · rw [ro 24 (by decide) (by decide), g24, upd_s]
      · rw [up2_s, upd_n i2, mSet_o _ _ _ (by decide), g37 i i1]
      · rw [up2_s, upd_s]
      · refine ⟨?_, ?_, ?_⟩
        · rw [up2_s, upd_n (by decide), mSet_o _ _ _ (by decide), ro 4 (by decide) (by decide), g4, hg, up2_s, upd_s]
        · rw [ro 4 (by decide) (by decide), g4]; decide
        · rw [ro 41 (by decide) (by decide), ro 10 (by decide) (by decide), go 41 (by decide) (by decide) (by decide), go 10 (by decide) (by decide) (by decide), hset' 41 (by decide), hset' 10 (by decide), e41]
      · have hqN : q < N := by
          rw [← hn, nI_toInt (by omega)] at hq
          omega
        have l1 : up2 (mSet g (12 * r') N) 37 20 1 40 (12 * r + q) = if r = r' then jtof (h 10 q).toInt (jdirs h) else h 40 (12 * r + q) := by
          rw [up2_n (by decide), mSet_at]
          by_cases e : r = r'
          · subst e
            rw [if_pos (by omega), if_pos rfl, show 12 * r + q - 12 * r = q by omega, gd, go 41 (by decide) (by decide) (by decide), hset' 41 (by decide), e41]
          · rw [if_neg (by omega), if_neg e, go 40 (by decide) (by decide) (by decide), hset' 40 (by decide)]
        have l2 : up2 (mSet g (12 * r') N) 37 20 1 (6 + r) q = if r = r' then jtof (h 10 q).toInt (jdirs h) else h (6 + r) q := by
          rw [ro (6 + r) (by omega) (by omega), go (6 + r) (by omega) (by omega) (by omega)]
          unfold jset
          by_cases e : r = r'
          · subst e
            rw [if_pos ⟨trivial, rfl, by rw [tN]; exact hqN⟩, if_pos rfl]
          · rw [if_neg (fun z => e (by have := z.2.1; omega)), if_neg e]
        rw [l1, l2]
        by_cases e : r = r'
        · rw [if_pos e, if_pos e]
          refine ⟨rfl, ?_⟩
          have hne := yf.2 q (by rw [tN]; exact hqN)
          rcases jtof_ok (h 10 q).toInt (jdirs_46 h) with z | z
          · exact absurd z.1 hne
          · rw [aDn_dirs]
            exact z.2.2
        · rw [if_neg e, if_neg e]
          obtain ⟨cnt, hc6, e0, e8, hv⟩ := c.2.1
          refine ⟨CP_turn c hr hq, ?_⟩
          have := hv.1.2.2 r q hr hq
          rw [show (vQ h).2.2.1 r q = h (6 + r) q from if_pos ⟨hr, hq⟩] at this
          exact this
