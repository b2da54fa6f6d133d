/-! ===== floor, mark: coupled ===== -/
theorem jfill_in {N : Nat} {v : Int32} {f : Nat → Int32} {i : Nat} (hi : i < N) : jfill N v f i = v := if_pos hi
/-- the floor anew: what it is -/
theorem CP_floor {k : Nat} {h g : jM} (c : CP k h) {kd n : Int32} (hk : 0 ≤ kd ∧ kd ≤ 1) (hn : 2 ≤ n ∧ n ≤ 12)
    (ho : ∀ a, ¬ a < 4 → ¬ (6 ≤ a ∧ a < 10) → ¬ a = 19 → ¬ a = 24 → ¬ (37 ≤ a ∧ a < 41) → g a = h a) (g7 : g 0 7 = 0) (g8 : g 0 8 = 0) (g10 : g 1 0 = kd) (g11 : g 1 1 = n) (g2 : g 2 = jfill 57600 0 (h 2)) (g3 : g 3 = jfill 57600 0 (h 3)) (g19 : g 19 0 = 0) (g24 : g 24 0 = 0) (g24o : ∀ i, ¬ i = 0 → g 24 i = h 24 i)
    (m0 : g 37 0 = kd) (m1 : g 37 1 = n) (m4 : g 37 4 = 0) (m8 : g 37 8 = 0) (m14 : g 37 14 = 0) (m19 : g 37 19 = 0) (mo : ∀ i, ¬ i < 2 → ¬ i = 4 → ¬ i = 8 → ¬ i = 14 → ¬ i = 19 → g 37 i = h 37 i) (m38 : g 38 = jfill 57600 0 (h 38)) (m39 : g 39 = jfill 57600 0 (h 39))
    (hr : ∀ r q : Nat, r < 4 → (q : Int) < n.toInt → g 40 (12 * r + q) = g (6 + r) q ∧ 0 ≤ (g (6 + r) q).toInt ∧ (g (6 + r) q).toInt < (aDn kd : Int)) : CP (k + 1) g := by
  have o := fun a (q : ((¬ a < 4 ∧ ¬ (6 ≤ a ∧ a < 10)) ∧ ¬ a = 19) ∧ (¬ a = 24 ∧ ¬ (37 ≤ a ∧ a < 41))) => ho a q.1.1.1 q.1.1.2 q.1.2 q.2.1 q.2.2
  obtain ⟨e5, e6, e7⟩ := ev_of (g := g) (h := h) (fun a ha => o a (by omega))
  have eX : ∀ j, vX g j = vX h j := vX_of (fun a ha => o a (by omega))
  have e42 : cut6 (g 42) = vX h 0 := by rw [o 42 (by decide)]; exact congrArg (fun q : aS => q.2.1) c.1.1
  have e43 : cut6 (g 43) = vX h 1 := by rw [o 43 (by decide)]; exact congrArg (fun q : aS => q.2.2.1) c.1.1
  have e44 : cut6 (g 44) = vX h 2 := by rw [o 44 (by decide)]; exact congrArg (fun q : aS => q.2.2.2) c.1.1
  have e45 : cut6 (g 45) = vX h 3 := by rw [o 45 (by decide)]; exact congrArg (fun q : aQ => q.2.2.2) c.1.2.1
  have hnI : 2 ≤ n.toInt ∧ n.toInt ≤ 12 := ⟨le_of_lit hn.1, le_of_lit hn.2⟩
  have eS : mS g = vS g := by
    unfold mS vS
    rw [m38, g2, e42, e43, e44, eX, eX, eX, CP_col c]
  have eQ : mQ g = vQ g := by
    unfold mQ vQ
    rw [m0, m1, g10, g11, eX, e45]
    have : (fun r q : Nat => if r < 4 ∧ (q : Int) < n.toInt then g 40 (12 * r + q) else 0) = (fun r q : Nat => if r < 4 ∧ (q : Int) < n.toInt then g (6 + r) q else 0) := by
      funext r q
      by_cases z : r < 4 ∧ (q : Int) < n.toInt
      · rw [if_pos z, if_pos z, (hr r q z.1 z.2).1]
      · rw [if_neg z, if_neg z]
    rw [this]
  have hv2 : aVal (vQ g) (vS g) 0 := by
    have q1 : (vQ g).1 = kd := g10
    have q2 : (vQ g).2.1 = n := g11
    refine ⟨⟨by rw [q2]; exact hnI, fun i hi => ?_, fun r q h1 h2 => ?_⟩, fun i hi => absurd hi (by omega)⟩
    · rw [q2]
      show 0 ≤ (g 2 i).toInt ∧ (g 2 i).toInt < n.toInt
      rw [g2, jfill_in hi]
      have : (0 : Int32).toInt = 0 := rfl
      omega
    · rw [q2] at h2
      have : (vQ g).2.2.1 r q = g (6 + r) q := if_pos ⟨h1, by rw [g11]; exact h2⟩
      rw [this, q1]
      exact (hr r q h1 h2).2
  have hk2 : kd = 0 ∨ kd = 1 := by
    obtain ⟨j, hj, rfl⟩ := nI_of2 (n := 1) (M := 1) rfl (Int32.not_lt.mpr hk.1) hk.2
    have : j = 0 ∨ j = 1 := by omega
    rcases this with rfl | rfl
    · exact Or.inl rfl
    · exact Or.inr rfl
  obtain ⟨t0, t1, t2, t3, t4, t5, t6⟩ := c.2.2.2.2.2.2.1
  obtain ⟨u0, u1, u2, u3, u4, u5⟩ := c.2.2.2.2.2.1
  have w : ∀ i, (¬ i < 2 ∧ ¬ i = 4) ∧ (¬ i = 8 ∧ ¬ i = 14 ∧ ¬ i = 19) → g 37 i = h 37 i := fun i z => mo i z.1.1 z.1.2 z.2.1 z.2.2.1 z.2.2.2
  unfold CP CPR
  rw [e5, e6, e7, o 4 (by decide), o 10 (by decide), o 20 (by decide), o 21 (by decide), o 22 (by decide), o 23 (by decide), o 25 (by decide), o 26 (by decide), o 27 (by decide), o 12 (by decide), o 41 (by decide), o 47 (by decide), o 48 (by decide), o 49 (by decide), o 50 (by decide), o 51 (by decide), o 52 (by decide), o 53 (by decide), o 54 (by decide), o 55 (by decide), g7, g8, g10, g19, g24, m4, m8, m14, m19, w 7 (by decide), w 20 (by decide), w 21 (by decide), w 24 (by decide), w 25 (by decide), w 26 (by decide), w 27 (by decide), w 28 (by decide), g24o 1 (by decide), g24o 2 (by decide), g24o 3 (by decide), m39, g3, c.1.2.2]
  exact ⟨⟨eS, eQ, rfl⟩, ⟨0, by omega, rfl, rfl, hv2⟩, hk2, rfl, c.2.2.2.2.1, ⟨rfl, ⟨by decide, by show (0 : Int) ≤ _; omega⟩, u2, u3, u4, u5⟩, ⟨rfl, t1, t2, t3, t4, t5, fun z => absurd rfl z⟩, c.2.2.2.2.2.2.2⟩
theorem jrst_o {h : jM} {m : Nat} {d : Int32} {a : Nat} (ha : ¬ (6 ≤ a ∧ a < 10)) : jrst h m d 4 0 a = h a := by
  funext i
  unfold jrst
  rw [if_neg]
  rintro (z | z)
  · exact ha ⟨z.1, by omega⟩
  · omega
theorem jrst_at {h : jM} {m : Nat} {d : Int32} {r q : Nat} (hr : r < 4) (hq : q < m) : jrst h m d 4 0 (6 + r) q = jtof (jRL q) d := by
  unfold jrst
  rw [if_pos (Or.inl ⟨by omega, by omega, hq⟩)]
theorem jRL_ok (q : Nat) {d : Int32} (hd : d = 4 ∨ d = 6) : jtof (jRL q) d = (if q % 2 = 0 then 1 else d - 1) ∧ 0 ≤ (jtof (jRL q) d).toInt ∧ (jtof (jRL q) d).toInt < d.toInt := by
  unfold jRL
  by_cases e : q % 2 = 0
  · rw [if_pos e, if_pos e]
    rcases hd with rfl | rfl <;> decide
  · rw [if_neg e, if_neg e]
    rcases hd with rfl | rfl <;> decide
theorem cp_floor {k : Nat} {h : jM} {K : List jK} (c : CP k h) (hM : jXM K) (kd n : Int32) : cpl k K h T_X6_floor T_X7_floor [.ref 0, .int kd, .int n] [.ref 37, .int kd, .int n] := by
  intro Q hQ
  obtain ⟨cnt, hc6, e0, e8, hv⟩ := c.2.1
  show _ ∧ _
  refine ⟨rfl, jXM_X hM, fun z => hQ _ _ (fun Q2 h2 => ?_), fun y => hQ _ _ (fun Q2 h2 => ?_)⟩
  · show _ ∧ _
    exact ⟨rfl, hM, fun _ => h2 _ (CP_mono c), fun y => absurd y z⟩
  · have hnI : 2 ≤ n.toInt ∧ n.toInt ≤ 12 := ⟨le_of_lit y.2.1, le_of_lit y.2.2⟩
    -- the class's side
    obtain ⟨h1, hh1⟩ : ∃ h1, h1 = upr (upr (up2 (up2 h 1 0 kd) 1 1 n) 2 (jfill 57600 0 (h 2))) 3 (jfill 57600 0 (h 3)) := ⟨_, rfl⟩
    obtain ⟨C, hC⟩ : ∃ C, C = cFloor h kd n := ⟨_, rfl⟩
    have hC2 : C = up2 (up2 (up2 (up2 (jrst h1 n.toInt.toNat (jdirs h1) 4 0) 19 0 0) 24 0 0) 0 7 0) 0 8 0 := by rw [hC, hh1]; rfl
    have c1 : ∀ a, ¬ a = 0 → ¬ a = 19 → ¬ a = 24 → ¬ (6 ≤ a ∧ a < 10) → C a = h1 a := fun a a1 a2 a3 a4 => by rw [hC2, up2_n a1, up2_n a1, up2_n a3, up2_n a2, jrst_o a4]
    have c2 : ∀ a, ¬ a = 1 → ¬ a = 2 → ¬ a = 3 → h1 a = h a := fun a a1 a2 a3 => by rw [hh1, upr_n a3, upr_n a2, up2_n a1, up2_n a1]
    have c0 : C 0 = upd (upd (h 0) 7 0) 8 0 := by rw [hC2, up2_s, up2_s, up2_n (by decide), up2_n (by decide), jrst_o (by decide), c2 0 (by decide) (by decide) (by decide)]
    have c19 : C 19 = upd (h 19) 0 0 := by rw [hC2, up2_n (by decide), up2_n (by decide), up2_n (by decide), up2_s, jrst_o (by decide), c2 19 (by decide) (by decide) (by decide)]
    have c24 : C 24 = upd (h 24) 0 0 := by rw [hC2, up2_n (by decide), up2_n (by decide), up2_s, up2_n (by decide), jrst_o (by decide), c2 24 (by decide) (by decide) (by decide)]
    have c11 : C 1 = upd (upd (h 1) 0 kd) 1 n := by rw [c1 1 (by decide) (by decide) (by decide) (by decide), hh1, upr_n (by decide), upr_n (by decide), up2_s, up2_s]
    have c22 : C 2 = jfill 57600 0 (h 2) := by rw [c1 2 (by decide) (by decide) (by decide) (by decide), hh1, upr_n (by decide), upr_s]
    have c33 : C 3 = jfill 57600 0 (h 3) := by rw [c1 3 (by decide) (by decide) (by decide) (by decide), hh1, upr_s]
    have cr : ∀ r q, r < 4 → q < n.toInt.toNat → C (6 + r) q = jtof (jRL q) (jdirs h1) := fun r q hr hq => by
      rw [hC2, up2_n (by omega), up2_n (by omega), up2_n (by omega), up2_n (by omega), jrst_at hr hq]
    have hd1 : jdirs h1 = jdirs C := by
      unfold jdirs
      rw [c1 1 (by decide) (by decide) (by decide) (by decide)]
    rw [← hC]
    -- the reference's side
    obtain ⟨g2, hg2⟩ : ∃ g2, g2 = upr (upr (up2 (up2 C 37 0 kd) 37 1 n) 38 (jfill 57600 0 (up2 (up2 C 37 0 kd) 37 1 n 38))) 39 (jfill 57600 0 (up2 (up2 C 37 0 kd) 37 1 n 39)) := ⟨_, rfl⟩
    obtain ⟨G, hG⟩ : ∃ G, G = mFloor C kd n := ⟨_, rfl⟩
    have hG2 : G = up2 (up2 (up2 (up2 (mRst g2 4 0) 37 8 0) 37 4 0) 37 14 0) 37 19 0 := by rw [hG, hg2]; rfl
    have d1 : ∀ a, ¬ a = 37 → ¬ a = 38 → ¬ a = 39 → ¬ a = 40 → G a = C a := fun a a1 a2 a3 a4 => by rw [hG2, up2_n a1, up2_n a1, up2_n a1, up2_n a1, mRst_o _ _ _ a4, hg2, upr_n a3, upr_n a2, up2_n a1, up2_n a1]
    have g237 : g2 37 = upd (upd (C 37) 0 kd) 1 n := by rw [hg2, upr_n (by decide), upr_n (by decide), up2_s, up2_s]
    have d37 : G 37 = upd (upd (upd (upd (g2 37) 8 0) 4 0) 14 0) 19 0 := by rw [hG2, up2_s, up2_s, up2_s, up2_s, mRst_o _ _ _ (by decide)]
    have d38 : G 38 = jfill 57600 0 (C 38) := by rw [hG2, up2_n (by decide), up2_n (by decide), up2_n (by decide), up2_n (by decide), mRst_o _ _ _ (by decide), hg2, upr_n (by decide), upr_s, up2_n (by decide), up2_n (by decide)]
    have d39 : G 39 = jfill 57600 0 (C 39) := by rw [hG2, up2_n (by decide), up2_n (by decide), up2_n (by decide), up2_n (by decide), mRst_o _ _ _ (by decide), hg2, upr_s, up2_n (by decide), up2_n (by decide)]
    have d40 : ∀ i, i < 48 → G 40 i = if i % 2 = 0 then 1 else jdM g2 - 1 := fun i hi => by
      rw [hG2, up2_n (by decide), up2_n (by decide), up2_n (by decide), up2_n (by decide)]
      unfold mRst
      rw [if_pos ⟨rfl, by omega⟩]
    have C37 : C 37 = h 37 := by rw [c1 37 (by decide) (by decide) (by decide) (by decide), c2 37 (by decide) (by decide) (by decide)]
    have hdM : jdM g2 = jdirs C := by
      unfold jdM jdirs
      rw [g237, upd_n (by decide), upd_s, c11, upd_n (by decide), upd_s]
      obtain ⟨j, hj, rfl⟩ := nI_of2 (n := 1) (M := 1) rfl (Int32.not_lt.mpr y.1.1) y.1.2
      have : j = 0 ∨ j = 1 := by omega
      rcases this with rfl | rfl <;> rfl
    have ans : h 0 7 = C 37 8 := by rw [C37, e0, e8]
    show _ ∧ _
    refine ⟨rfl, hM, fun z => absurd y z, fun _ => ?_⟩
    rw [← ans, ← hG]
    refine h2 _ ?_
    have dC : ∀ a, ¬ a = 0 → ¬ a = 1 → ¬ a = 2 → ¬ a = 3 → ¬ a = 19 → ¬ a = 24 → ¬ (6 ≤ a ∧ a < 10) → C a = h a := fun a a0 a1 a2 a3 a4 a5 a6 => by rw [c1 a a0 a4 a5 a6, c2 a a1 a2 a3]
    have e37 : G 37 = upd (upd (upd (upd (upd (upd (h 37) 0 kd) 1 n) 8 0) 4 0) 14 0) 19 0 := by rw [d37, g237, C37]
    clear hC hC2 hG hG2 hg2 hh1 d37 g237
    have v0 : G 0 = C 0 := d1 0 (by decide) (by decide) (by decide) (by decide)
    have v1 : G 1 = C 1 := d1 1 (by decide) (by decide) (by decide) (by decide)
    refine CP_floor c y.1 y.2 (fun a a1 a2 a3 a4 a5 => ?_) ?_ ?_ ?_ ?_ ?_ ?_ ?_ ?_ (fun i hi => ?_) ?_ ?_ ?_ ?_ ?_ ?_ (fun i i1 i2 i3 i4 i5 => ?_) ?_ ?_ (fun r q hr hq => ?_)
    · rw [d1 a (by omega) (by omega) (by omega) (by omega), dC a (by omega) (by omega) (by omega) (by omega) a3 a4 a2]
    · rw [v0, c0, upd_n (by decide), upd_s]
    · rw [v0, c0, upd_s]
    · rw [v1, c11, upd_n (by decide), upd_s]
    · rw [v1, c11, upd_s]
    · rw [d1 2 (by decide) (by decide) (by decide) (by decide), c22]
    · rw [d1 3 (by decide) (by decide) (by decide) (by decide), c33]
    · rw [d1 19 (by decide) (by decide) (by decide) (by decide), c19, upd_s]
    · rw [d1 24 (by decide) (by decide) (by decide) (by decide), c24, upd_s]
    · rw [d1 24 (by decide) (by decide) (by decide) (by decide), c24, upd_n hi]
    · rw [e37, upd_n (by decide), upd_n (by decide), upd_n (by decide), upd_n (by decide), upd_n (by decide), upd_s]
    · rw [e37, upd_n (by decide), upd_n (by decide), upd_n (by decide), upd_n (by decide), upd_s]
    · rw [e37, upd_n (by decide), upd_n (by decide), upd_s]
    · rw [e37, upd_n (by decide), upd_n (by decide), upd_n (by decide), upd_s]
    · rw [e37, upd_n (by decide), upd_s]
    · rw [e37, upd_s]
    · rw [e37, upd_n i5, upd_n i4, upd_n i2, upd_n i3, upd_n (by omega), upd_n (by omega)]
    · rw [d38, dC 38 (by decide) (by decide) (by decide) (by decide) (by decide) (by decide) (by decide)]
    · rw [d39, dC 39 (by decide) (by decide) (by decide) (by decide) (by decide) (by decide) (by decide)]
    · have hq12 : q < n.toInt.toNat := by omega
      obtain ⟨z1, z2, z3⟩ := jRL_ok q (jdirs_46 C)
      have eG : G (6 + r) q = jtof (jRL q) (jdirs C) := by rw [d1 (6 + r) (by omega) (by omega) (by omega) (by omega), cr r q hr hq12, hd1]
      have eC : (aDn kd : Int) = (jdirs C).toInt := by
        rw [← aDn_dirs C, c11, upd_n (by decide), upd_s]
      rw [eG, d40 (12 * r + q) (by omega), hdM, z1, eC]
      rw [z1] at z2 z3
      refine ⟨?_, z2, z3⟩
      have : (12 * r + q) % 2 = q % 2 := by omega
      rw [this]
/-! mark -/
theorem mTake_o (h : jM) {a : Nat} (h1 : ¬ a = 51) (h2 : ¬ a = 52) : ∀ n, mTake h n a = h a
  | 0 => rfl
  | n + 1 => by rw [mTake_s, up2_n h1, up2_n h2]; exact mTake_o h h1 h2 n
theorem mTake_at (h : jM) : ∀ (n i : Nat), mTake h n 52 i = (if i < n then h 38 i else h 52 i) ∧ mTake h n 51 i = (if i < n then 0 else h 51 i)
  | 0, i => by rw [if_neg (by omega), if_neg (by omega)]; exact ⟨rfl, rfl⟩
  | n + 1, i => by
    obtain ⟨a, b⟩ := mTake_at h n i
    have s52 : mTake h (n + 1) 52 = upd (mTake h n 52) n (h 38 n) := by rw [mTake_s, up2_n (by decide), up2_s, mTake_o h (a := 38) (by decide) (by decide)]
    have s51 : mTake h (n + 1) 51 = upd (mTake h n 51) n 0 := by rw [mTake_s, up2_s, up2_n (by decide)]
    rw [s52, s51]
    by_cases e : i = n
    · subst e
      rw [upd_s, upd_s, if_pos (by omega), if_pos (by omega)]
      exact ⟨rfl, rfl⟩
    · rw [upd_n e, upd_n e, a, b]
      by_cases q : i < n
      · rw [if_pos q, if_pos q, if_pos (by omega), if_pos (by omega)]; exact ⟨rfl, rfl⟩
      · rw [if_neg q, if_neg q, if_neg (by omega), if_neg (by omega)]; exact ⟨rfl, rfl⟩
theorem jcnt_none {p : Nat → Prop} : ∀ {n : Nat}, (∀ i, i < n → ¬ p i) → jcnt p n = 0
  | 0, _ => rfl
  | n + 1, h => by rw [jcnt_neg (h n (by omega))]; exact jcnt_none (fun i hi => h i (by omega))
theorem cp_mark {k : Nat} {h : jM} {K : List jK} (c : CP k h) (hM : jXM K) : cpl k K h T_X6_mark T_X7_mark [.ref 0] [.ref 37] := by
  intro Q hQ
  obtain ⟨cnt, hc6, e0, e8, hv⟩ := c.2.1
  show _ ∧ _
  refine ⟨rfl, jXM_X hM, hQ _ _ (fun Q2 h2 => ?_)⟩
  -- the class's side
  obtain ⟨h1, hh1⟩ : ∃ h1, h1 = up2 (up2 (up2 h 24 0 1) 24 1 0) 24 2 (h 0 8) := ⟨_, rfl⟩
  obtain ⟨C, hC⟩ : ∃ C, C = jtake h (h 0 8) := ⟨_, rfl⟩
  have a12 : h1 12 = h 12 := by rw [hh1, up2_n (by decide), up2_n (by decide), up2_n (by decide)]
  obtain ⟨h2', hh2⟩ : ∃ h2', h2' = upAnt h1 25 (h1 12 0) (h1 12 1) (h1 12 2) (h1 12 3) := ⟨_, rfl⟩
  have hC2 : C = up2 (upr (upr h2' 26 (va_cpy (h2' 2) (h2' 26) 0 0 57600)) 27 (jfill 57600 0 (upr h2' 26 (va_cpy (h2' 2) (h2' 26) 0 0 57600) 27))) 24 3 0 := by rw [hC, hh2, hh1]; rfl
  have b1 : ∀ a, ¬ a = 25 → ¬ a = 24 → h2' a = h a := fun a a1 a2 => by rw [hh2, upAnt_n a1, hh1, up2_n a2, up2_n a2, up2_n a2]
  have b24 : h2' 24 = upd (upd (upd (h 24) 0 1) 1 0) 2 (h 0 8) := by rw [hh2, upAnt_n (by decide), hh1, up2_s, up2_s, up2_s]
  have b25 : h2' 25 = upd (upd (upd (upd (h1 25) 0 (h 12 0)) 1 (h 12 1)) 2 (h 12 2)) 3 (h 12 3) := by rw [hh2, upAnt_s, a12]
  have c1 : ∀ a, ¬ a = 24 → ¬ a = 25 → ¬ a = 26 → ¬ a = 27 → C a = h a := fun a a1 a2 a3 a4 => by rw [hC2, up2_n a1, upr_n a4, upr_n a3, b1 a a2 a1]
  have c24 : C 24 = upd (upd (upd (upd (h 24) 0 1) 1 0) 2 (h 0 8)) 3 0 := by rw [hC2, up2_s, upr_n (by decide), upr_n (by decide), b24]
  have c25 : C 25 = upd (upd (upd (upd (h1 25) 0 (h 12 0)) 1 (h 12 1)) 2 (h 12 2)) 3 (h 12 3) := by rw [hC2, up2_n (by decide), upr_n (by decide), upr_n (by decide), b25]
  have c26 : C 26 = va_cpy (h 2) (h 26) 0 0 57600 := by rw [hC2, up2_n (by decide), upr_n (by decide), upr_s, b1 2 (by decide) (by decide), b1 26 (by decide) (by decide)]
  have c27 : C 27 = jfill 57600 0 (h 27) := by rw [hC2, up2_n (by decide), upr_s, upr_n (by decide), b1 27 (by decide) (by decide)]
  rw [← hC]
  clear hC hC2 hh2 hh1 b1 b24 b25 a12
  show _ ∧ _
  refine ⟨rfl, hM, fun g hg => ?_⟩
  obtain ⟨g1, hg1⟩ : ∃ g1, g1 = up2 (up2 (up2 C 37 19 1) 37 20 0) 37 21 0 := ⟨_, rfl⟩
  rw [← hg1] at hg
  have d0 : ∀ a, ¬ a = 37 → g1 a = C a := fun a a1 => by rw [hg1, up2_n a1, up2_n a1, up2_n a1]
  have d37 : g1 37 = upd (upd (upd (h 37) 19 1) 20 0) 21 0 := by rw [hg1, up2_s, up2_s, up2_s, c1 37 (by decide) (by decide) (by decide) (by decide)]
  have go : ∀ a, ¬ a = 51 → ¬ a = 52 → g a = g1 a := fun a a1 a2 => by rw [hg, mTake_o _ a1 a2]
  have g51 : ∀ i, i < 57600 → g 51 i = 0 := fun i hi => by rw [hg, (mTake_at g1 57600 i).2, if_pos hi]
  have g52 : g 52 = va_cpy (h 2) (h 26) 0 0 57600 := by
    funext i
    rw [hg, (mTake_at g1 57600 i).1, d0 38 (by decide), d0 52 (by decide), c1 38 (by decide) (by decide) (by decide) (by decide), c1 52 (by decide) (by decide) (by decide) (by decide), CP_col c, c.2.2.2.2.2.2.1.2.2.2.2.1]
    by_cases q : i < 57600
    · rw [if_pos q, pk_cpy_in (Nat.zero_le _) (by omega), Nat.sub_zero, Nat.zero_add]
    · rw [if_neg q, pk_cpy_out (Or.inr (by omega))]
  have g37 : g 37 = upd (upd (upd (h 37) 19 1) 20 0) 21 0 := by rw [go 37 (by decide) (by decide), d37]
  have gC : ∀ a, ¬ a = 37 → ¬ a = 51 → ¬ a = 52 → g a = C a := fun a a1 a2 a3 => by rw [go a a2 a3, d0 a a1]
  have gh : ∀ a, ¬ a = 37 → ¬ a = 51 → ¬ a = 52 → ¬ a = 24 → ¬ a = 25 → ¬ a = 26 → ¬ a = 27 → g a = h a := fun a a1 a2 a3 a4 a5 a6 a7 => by rw [gC a a1 a2 a3, c1 a a4 a5 a6 a7]
  clear hg hg1 d0 d37 go
  have g374 : g 37 4 = h 37 4 := by rw [g37, upd_n (by decide), upd_n (by decide), upd_n (by decide)]
  have e4 : h 37 4 = h 0 8 := c.2.2.2.1
  rw [g374, e4]
  obtain ⟨x1, x2, x3, x4⟩ := CP_ant c (i := 0) (by omega)
  rw [gh 42 (by decide) (by decide) (by decide) (by decide) (by decide) (by decide) (by decide), gh 43 (by decide) (by decide) (by decide) (by decide) (by decide) (by decide) (by decide), gh 44 (by decide) (by decide) (by decide) (by decide) (by decide) (by decide) (by decide), gh 45 (by decide) (by decide) (by decide) (by decide) (by decide) (by decide) (by decide), x1, x2, x3, x4]
  refine h2 _ ?_
  obtain ⟨F, hF⟩ : ∃ F, F = up2 (up2 (up2 (up2 (up2 g 37 24 (h 0 8)) 37 25 (h (12 + 0) 0)) 37 26 (h (12 + 0) 1)) 37 27 (h (12 + 0) 2)) 37 28 (h (12 + 0) 3) := ⟨_, rfl⟩
  rw [← hF]
  have Fo : ∀ a, ¬ a = 37 → F a = g a := fun a a1 => by rw [hF, up2_n a1, up2_n a1, up2_n a1, up2_n a1, up2_n a1]
  have F37 : F 37 = upd (upd (upd (upd (upd (upd (upd (upd (h 37) 19 1) 20 0) 21 0) 24 (h 0 8)) 25 (h 12 0)) 26 (h 12 1)) 27 (h 12 2)) 28 (h 12 3) := by rw [hF, up2_s, up2_s, up2_s, up2_s, up2_s, g37]
  clear hF
  have q := fun a (z : (¬ a = 37 ∧ ¬ a = 51 ∧ ¬ a = 52) ∧ (¬ a = 24 ∧ ¬ a = 25 ∧ ¬ a = 26 ∧ ¬ a = 27)) => (Fo a z.1.1).trans (gh a z.1.1 z.1.2.1 z.1.2.2 z.2.1 z.2.2.1 z.2.2.2.1 z.2.2.2.2)
  have w : ∀ i, (¬ i = 19 ∧ ¬ i = 20 ∧ ¬ i = 21) ∧ (¬ (24 ≤ i ∧ i < 29)) → F 37 i = h 37 i := fun i z => by rw [F37, upd_n (by omega), upd_n (by omega), upd_n (by omega), upd_n (by omega), upd_n (by omega), upd_n (by omega), upd_n (by omega), upd_n (by omega)]
  have e1 : vS F = vS h := vS_of (q 2 (by decide)) (fun a ha => q a (by omega))
  have e2 : vQ F = vQ h := vQ_of (q 1 (by decide)) (fun a ha => q a (by omega)) (fun a ha => q a (by omega))
  have e3 : mS F = mS h := mS_of2 (q 38 (by decide)) (q 42 (by decide)) (q 43 (by decide)) (q 44 (by decide))
  have e4' : mQ F = mQ h := mQ_of2 (w 0 (by decide)) (w 1 (by decide)) (q 40 (by decide)) (q 45 (by decide))
  obtain ⟨e5, e6, e7⟩ := ev_of (g := F) (h := h) (fun a ha => q a (by omega))
  have F24 : F 24 = upd (upd (upd (upd (h 24) 0 1) 1 0) 2 (h 0 8)) 3 0 := by rw [Fo 24 (by decide), gC 24 (by decide) (by decide) (by decide), c24]
  have F25 : F 25 = upd (upd (upd (upd (h1 25) 0 (h 12 0)) 1 (h 12 1)) 2 (h 12 2)) 3 (h 12 3) := by rw [Fo 25 (by decide), gC 25 (by decide) (by decide) (by decide), c25]
  have F26 : F 26 = va_cpy (h 2) (h 26) 0 0 57600 := by rw [Fo 26 (by decide), gC 26 (by decide) (by decide) (by decide), c26]
  have F27 : F 27 = jfill 57600 0 (h 27) := by rw [Fo 27 (by decide), gC 27 (by decide) (by decide) (by decide), c27]
  have F52 : F 52 = va_cpy (h 2) (h 26) 0 0 57600 := by rw [Fo 52 (by decide), g52]
  have F51 : ∀ i, i < 57600 → F 51 i = 0 := fun i hi => by rw [Fo 51 (by decide), g51 i hi]
  have hpM : pM (F 24 0) (F 24 1) (F 24 2) (F 24 3) (F 25 0) (F 25 1) (F 25 2) (F 25 3) (F 26) (F 27) (F 37 19) (F 37 20) (F 37 21) (F 37 24) (F 37 25) (F 37 26) (F 37 27) (F 37 28) (F 51) (F 52) := by
    rw [F24, F25, F26, F27, F52, F37]
    simp only [up2_s, up2_n, upr_s, upr_n, upd_s, upd_n, ev_vS, ev_vSr, ev_vQ, ev_vQr, ev_mS, ev_mSr, ev_mQ, ev_mQr, ev_mQ7, ev_vL, ev_vN, ev_vI, ev_vLr, ev_vNr, ev_vIr, Nat.reduceEqDiff, Nat.reduceLeDiff, Nat.reduceLT, not_false_eq_true, and_false, false_and, and_self, and_true, true_and, reduceCtorEq, Nat.zero_ne_one, Nat.one_ne_zero, not_true_eq_false]
    refine ⟨rfl, ⟨fun _ => ⟨rfl, rfl⟩, fun _ => rfl⟩, rfl, ⟨rfl, rfl, rfl, rfl⟩, rfl, c.2.2.2.2.2.2.2.2, fun _ => ⟨fun P hP => ?_, ?_⟩⟩
    · rw [F51 P hP, jfill_in hP]
    · rw [jcnt_none (fun i hi => by rw [jfill_in hi]; exact fun z => z rfl)]
      rfl
  unfold CP CPR
  rw [e1, e2, e3, e4', e5, e6, e7, q 3 (by decide), q 0 (by decide), q 1 (by decide), q 4 (by decide), q 10 (by decide), q 19 (by decide), q 20 (by decide), q 21 (by decide), q 22 (by decide), q 23 (by decide), q 12 (by decide), q 39 (by decide), q 41 (by decide), q 47 (by decide), q 48 (by decide), q 49 (by decide), q 50 (by decide), q 53 (by decide), q 54 (by decide), q 55 (by decide), w 8 (by decide), w 4 (by decide), w 7 (by decide), w 14 (by decide)]
  exact ⟨c.1, c.2.1, c.2.2.1, c.2.2.2.1, c.2.2.2.2.1, pE_mono c.2.2.2.2.2.1, hpM, c.2.2.2.2.2.2.2⟩
