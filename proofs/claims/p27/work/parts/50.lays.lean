/-! ===== what lays makes of an object's memory ===== -/
theorem jtof_ok (x : Int) {d : Int32} (hd : d = 4 ∨ d = 6) : (jtof x d = -1 ∧ jtof x d < 0) ∨ (¬ jtof x d = -1 ∧ ¬ jtof x d < 0 ∧ 0 ≤ (jtof x d).toInt ∧ (jtof x d).toInt < d.toInt) := by
  unfold jtof
  rcases hd with rfl | rfl
  · by_cases a1 : x = 76
    · rw [if_pos a1]; decide
    · rw [if_neg a1]
      by_cases a2 : x = 77
      · rw [if_pos a2]; decide
      · rw [if_neg a2]
        by_cases a3 : x = 78
        · rw [if_pos a3]; decide
        · rw [if_neg a3]
          by_cases a4 : x = 82
          · rw [if_pos a4]; decide
          · rw [if_neg a4]
            by_cases a5 : x = 83
            · rw [if_pos a5]; decide
            · rw [if_neg a5]
              by_cases a6 : x = 85
              · rw [if_pos a6]; decide
              · rw [if_neg a6]; decide
  · by_cases a1 : x = 76
    · rw [if_pos a1]; decide
    · rw [if_neg a1]
      by_cases a2 : x = 77
      · rw [if_pos a2]; decide
      · rw [if_neg a2]
        by_cases a3 : x = 78
        · rw [if_pos a3]; decide
        · rw [if_neg a3]
          by_cases a4 : x = 82
          · rw [if_pos a4]; decide
          · rw [if_neg a4]
            by_cases a5 : x = 83
            · rw [if_pos a5]; decide
            · rw [if_neg a5]
              by_cases a6 : x = 85
              · rw [if_pos a6]; decide
              · rw [if_neg a6]; decide
theorem jdirs_46 (h : jM) : jdirs h = 4 ∨ jdirs h = 6 := by
  unfold jdirs
  by_cases e : h 1 0 = 1
  · rw [if_pos e]; exact Or.inr rfl
  · rw [if_neg e]; exact Or.inl rfl
theorem aDn_dirs (h : jM) : (aDn (h 1 0) : Int) = (jdirs h).toInt := by
  unfold aDn jdirs
  by_cases e : h 1 0 = 1
  · rw [if_pos e, if_pos e]; rfl
  · rw [if_neg e, if_neg e]; rfl
theorem jfill_in {N : Nat} {v : Int32} {f : Nat → Int32} {i : Nat} (hi : i < N) : jfill N v f i = v := if_pos hi
theorem jrst_o {h : jM} {m : Nat} {d : Int32} {a : Nat} (ha : ¬ (6 ≤ a ∧ a < 10)) : jrst h m d 4 0 a = h a := by
  funext i
  unfold jrst
  rw [if_neg]
  rintro (z | z)
  · exact ha ⟨z.1, by omega⟩
  · omega
theorem jrst_at {h : jM} {m : Nat} {d : Int32} {r q : Nat} (hr : r < 4) (hq : q < m) : jrst h m d 4 0 (6 + r) q = jtof (jRL q) d := by
  unfold jrst
  rw [if_pos (Or.inl ⟨by omega, by omega, hq⟩)]
theorem jRL_ok (q : Nat) {d : Int32} (hd : d = 4 ∨ d = 6) : jtof (jRL q) d = (if q % 2 = 0 then 1 else d - 1) ∧ 0 ≤ (jtof (jRL q) d).toInt ∧ (jtof (jRL q) d).toInt < d.toInt := by
  unfold jRL
  by_cases e : q % 2 = 0
  · rw [if_pos e, if_pos e]
    rcases hd with rfl | rfl <;> decide
  · rw [if_neg e, if_neg e]
    rcases hd with rfl | rfl <;> decide
theorem upAnt_lit {h : jM} {i : Nat} (hi : i < 6) {x y d r : Int32} {b : Nat} (hb : ¬ (12 ≤ b ∧ b < 18)) : upAnt h (12 + i) x y d r b = h b := upAnt_n (by omega)
theorem ev_vSa (h : jM) {i : Nat} (hi : i < 6) (x y d r : Int32) : vS (upAnt h (12 + i) x y d r) = ((vS h).1, upd (vS h).2.1 i x, upd (vS h).2.2.1 i y, upd (vS h).2.2.2 i d) := by
  unfold vS
  rw [upAnt_lit hi (by decide), vX_upAnt _ _ _ _ _ _ hi, vX_upAnt _ _ _ _ _ _ hi, vX_upAnt _ _ _ _ _ _ hi]
  rfl
theorem ev_vQa (h : jM) {i : Nat} (hi : i < 6) (x y d r : Int32) : vQ (upAnt h (12 + i) x y d r) = ((vQ h).1, (vQ h).2.1, (vQ h).2.2.1, upd (vQ h).2.2.2 i r) := by
  unfold vQ
  rw [upAnt_lit hi (by decide), vX_upAnt _ _ _ _ _ _ hi]
  have e2 : (fun r' c : Nat => if r' < 4 ∧ (c : Int) < (h 1 1).toInt then upAnt h (12 + i) x y d r (6 + r') c else 0) = (fun r' c : Nat => if r' < 4 ∧ (c : Int) < (h 1 1).toInt then h (6 + r') c else 0) := by
    funext r' c
    by_cases q : r' < 4 ∧ (c : Int) < (h 1 1).toInt
    · rw [if_pos q, if_pos q, upAnt_lit hi (by omega)]
    · rw [if_neg q, if_neg q]
  rw [e2]
  rfl
theorem aVal_le {q : aQ} {s : aS} {m n : Nat} (h : aVal q s m) (hn : n ≤ m) : aVal q s n := ⟨h.1, fun i hi => h.2 i (by omega)⟩
theorem idx_lt {a : Int32} {n : Nat} (h : 0 ≤ a ∧ a ≤ nI n - 1) (hn : n < 2147483648) : a.toNatClampNeg < n := by
  have e1 : (nI n).toInt = (n : Int) := nI_toInt hn
  have e2 : (nI n - 1).toInt = (n : Int) - 1 := by
    have : (1 : Int32).toInt = 1 := rfl
    rw [ti_sub (by rw [e1, this]; omega) (by rw [e1, this]; omega), e1, this]
  have a1 : (0 : Int) ≤ a.toInt := le_of_lit h.1
  have a2 : a.toInt ≤ (n : Int) - 1 := by have := le_of_lit h.2; omega
  have := clamp_int a1
  omega
noncomputable def typeM (h : jM) (w : Int64) : jM := @ite jM (h 4 2 + 1 ≤ 12) (Classical.propDecidable _) (jtb h w (1 : Int32).toInt.toNat (h 4 2).toInt.toNat 0) h
noncomputable def ruleM (h : jM) (i : Nat) : jM := @ite jM (jfits h (h 1 1) (jdirs h)) (Classical.propDecidable _) (up2 (up2 (jset h True i (jdirs h) (h 4 2).toInt.toNat) 4 2 0) 24 1 1) (up2 h 4 2 0)
noncomputable def antM (h : jM) (x y d r : Int32) : jM := @ite jM (onF x y ∧ (0 ≤ d ∧ d ≤ jdirs h - 1) ∧ 0 ≤ r ∧ r ≤ 3) (Classical.propDecidable _) (@ite jM (6 ≤ h 0 7) (Classical.propDecidable _) h (up2 (up2 (upAnt h (12 + (h 0 7).toNatClampNeg) x y d r) 0 7 (h 0 7 + 1)) 24 1 1)) h
theorem type_D {h : jM} {K : List jK} {w : Int64} {Q : jPost} (hX : jX K) (ht : 0 ≤ (h 4 2).toInt ∧ (h 4 2).toInt ≤ 12) (hQ : ∀ v, Q (some (.int v)) K (typeM h w)) : T_X6_type [.ref 0, .long w, .int 1] K h Q := by
  unfold typeM at hQ
  show _ ∧ _
  refine ⟨rfl, hX, ht, fun z => absurd (by decide) z, fun _ z => ?_, fun _ z => ?_⟩
  · have h9 := hQ (-3)
    rw [if_neg z] at h9
    exact h9
  · have h9 := hQ (h 4 2 + 1)
    rw [if_pos z] at h9
    exact h9
theorem rule_D {h : jM} {K : List jK} {i : Nat} {Q : jPost} (hX : jX K) (ht : 0 ≤ (h 4 2).toInt ∧ (h 4 2).toInt ≤ 12) (hi : i < 4) (hQ : ∀ v, Q (some (.int v)) K (ruleM h i)) : T_X6_rule [.ref 0, .int (nI i)] K h Q := by
  unfold ruleM at hQ
  have hin : 0 ≤ nI i ∧ nI i ≤ 3 := ⟨nI_pos' (by omega), by rw [show (3 : Int32) = nI 3 from rfl, nI_leI (by omega) (by decide)]; omega⟩
  show _ ∧ _
  refine ⟨rfl, hX, ht, fun z => absurd hin z, fun _ z => ?_, fun _ z => ?_⟩
  · have h9 := hQ (-2)
    rw [if_neg z] at h9
    exact h9
  · have h9 := hQ (h 1 1)
    rw [if_pos z] at h9
    rw [nI_clamp (show i < 2147483648 by omega)]
    exact h9
theorem ant_D {h : jM} {K : List jK} {x y d r : Int32} {Q : jPost} (hX : jX K) (ht : 0 ≤ (h 0 7).toInt ∧ (h 0 7).toInt ≤ 6) (hQ : ∀ v, Q (some (.int v)) K (antM h x y d r)) : T_X6_ant [.ref 0, .int x, .int y, .int d, .int r] K h Q := by
  unfold antM at hQ
  show _ ∧ _
  refine ⟨rfl, hX, ht, fun z => ?_, fun z => ⟨fun z2 => ?_, fun z2 => ?_⟩⟩
  · have h9 := hQ (-1)
    rw [if_neg z] at h9
    exact h9
  · have h9 := hQ (-3)
    rw [if_pos z, if_pos z2] at h9
    exact h9
  · have h9 := hQ (h 0 7 + 1 - 1)
    rw [if_pos z, if_neg z2] at h9
    exact h9
/-- an object as lays leaves it -/
def LV (kd n : Int32) (m : jM) : Prop := m 1 0 = kd ∧ m 1 1 = n ∧ (∃ cnt, cnt ≤ 6 ∧ m 0 7 = nI cnt ∧ aVal (vQ m) (vS m) cnt) ∧ (0 ≤ (m 4 2).toInt ∧ (m 4 2).toInt ≤ 12) ∧ m 0 8 = 0 ∧ m 19 0 = 0 ∧ (∀ i, i < 57600 → m 2 i = 0)
theorem LV_floor {h : jM} {kd n : Int32} (ht : 0 ≤ (h 4 2).toInt ∧ (h 4 2).toInt ≤ 12) (hn : 2 ≤ n ∧ n ≤ 12) : LV kd n (cFloor h kd n) := by
  have hnI : 2 ≤ n.toInt ∧ n.toInt ≤ 12 := ⟨le_of_lit hn.1, le_of_lit hn.2⟩
  obtain ⟨h1, hh1⟩ : ∃ h1, h1 = upr (upr (up2 (up2 h 1 0 kd) 1 1 n) 2 (jfill 57600 0 (h 2))) 3 (jfill 57600 0 (h 3)) := ⟨_, rfl⟩
  obtain ⟨C, hC⟩ : ∃ C, C = cFloor h kd n := ⟨_, rfl⟩
  have hC2 : C = up2 (up2 (up2 (up2 (jrst h1 n.toInt.toNat (jdirs h1) 4 0) 19 0 0) 24 0 0) 0 7 0) 0 8 0 := by rw [hC, hh1]; rfl
  have c1 : ∀ a, ¬ a = 0 → ¬ a = 19 → ¬ a = 24 → ¬ (6 ≤ a ∧ a < 10) → C a = h1 a := fun a a1 a2 a3 a4 => by rw [hC2, up2_n a1, up2_n a1, up2_n a3, up2_n a2, jrst_o a4]
  have c2 : ∀ a, ¬ a = 1 → ¬ a = 2 → ¬ a = 3 → h1 a = h a := fun a a1 a2 a3 => by rw [hh1, upr_n a3, upr_n a2, up2_n a1, up2_n a1]
  have c0 : C 0 = upd (upd (h 0) 7 0) 8 0 := by rw [hC2, up2_s, up2_s, up2_n (by decide), up2_n (by decide), jrst_o (by decide), c2 0 (by decide) (by decide) (by decide)]
  have c19 : C 19 = upd (h 19) 0 0 := by rw [hC2, up2_n (by decide), up2_n (by decide), up2_n (by decide), up2_s, jrst_o (by decide), c2 19 (by decide) (by decide) (by decide)]
  have c11 : C 1 = upd (upd (h 1) 0 kd) 1 n := by rw [c1 1 (by decide) (by decide) (by decide) (by decide), hh1, upr_n (by decide), upr_n (by decide), up2_s, up2_s]
  have c22 : C 2 = jfill 57600 0 (h 2) := by rw [c1 2 (by decide) (by decide) (by decide) (by decide), hh1, upr_n (by decide), upr_s]
  have c4 : C 4 = h 4 := by rw [c1 4 (by decide) (by decide) (by decide) (by decide), c2 4 (by decide) (by decide) (by decide)]
  have cr : ∀ r q, r < 4 → q < n.toInt.toNat → C (6 + r) q = jtof (jRL q) (jdirs h1) := fun r q hr hq => by
    rw [hC2, up2_n (by omega), up2_n (by omega), up2_n (by omega), up2_n (by omega), jrst_at hr hq]
  have hd1 : jdirs h1 = jdirs C := by
    unfold jdirs
    rw [c1 1 (by decide) (by decide) (by decide) (by decide)]
  rw [← hC]
  have k0 : C 1 0 = kd := by rw [c11, upd_n (by decide), upd_s]
  have k1 : C 1 1 = n := by rw [c11, upd_s]
  refine ⟨k0, k1, ⟨0, by omega, by rw [c0, upd_n (by decide), upd_s]; rfl, ⟨⟨?_, fun i hi => ?_, fun r q h1 h2 => ?_⟩, fun i hi => absurd hi (by omega)⟩⟩, by rw [c4]; exact ht, by rw [c0, upd_s], by rw [c19, upd_s], fun i hi => by rw [c22, jfill_in hi]⟩
  · show 2 ≤ (C 1 1).toInt ∧ (C 1 1).toInt ≤ 12
    rw [k1]; exact hnI
  · show 0 ≤ (C 2 i).toInt ∧ (C 2 i).toInt < (C 1 1).toInt
    rw [c22, jfill_in hi, k1]
    have : (0 : Int32).toInt = 0 := rfl
    omega
  · have h2' : (q : Int) < (C 1 1).toInt := h2
    have e : (vQ C).2.2.1 r q = C (6 + r) q := if_pos ⟨h1, h2'⟩
    rw [e, cr r q h1 (by rw [k1] at h2'; omega), hd1]
    show 0 ≤ _ ∧ _ < (aDn (C 1 0) : Int)
    rw [aDn_dirs C]
    exact (jRL_ok q (jdirs_46 C)).2
/-- where floor, ants, count, time, meetings are the same, and rules are such -/
theorem LV_of {kd n : Int32} {m g : jM} (hL : LV kd n m) (h0 : g 0 = m 0) (h1 : g 1 = m 1) (h2 : g 2 = m 2) (h19 : g 19 = m 19) (ha : ∀ c, 12 ≤ c ∧ c < 18 → g c = m c) (ht : 0 ≤ (g 4 2).toInt ∧ (g 4 2).toInt ≤ 12) (hr : ∀ r q : Nat, r < 4 → (q : Int) < n.toInt → 0 ≤ (g (6 + r) q).toInt ∧ (g (6 + r) q).toInt < (aDn kd : Int)) : LV kd n g := by
  obtain ⟨l0, l1, ⟨cnt, hc, l7, hv⟩, l4, l8, l19, l2⟩ := hL
  have e1 : vS g = vS m := vS_of h2 ha
  have eX : vX g 3 = vX m 3 := vX_of ha 3
  refine ⟨by rw [h1]; exact l0, by rw [h1]; exact l1, ⟨cnt, hc, by rw [h0]; exact l7, ?_⟩, ht, by rw [h0]; exact l8, by rw [h19]; exact l19, by rw [h2]; exact l2⟩
  rw [e1]
  have q1 : (vQ g).1 = (vQ m).1 := by show g 1 0 = m 1 0; rw [h1]
  have q2 : (vQ g).2.1 = (vQ m).2.1 := by show g 1 1 = m 1 1; rw [h1]
  have q3 : (vQ g).2.2.2 = (vQ m).2.2.2 := eX
  refine ⟨⟨by rw [q2]; exact hv.1.1, by rw [q2]; exact hv.1.2.1, fun r q a1 a2 => ?_⟩, fun i hi => ?_⟩
  · have a2' : (q : Int) < (g 1 1).toInt := a2
    have e : (vQ g).2.2.1 r q = g (6 + r) q := if_pos ⟨a1, a2'⟩
    rw [e, q1]
    have e0 : (vQ m).1 = kd := l0
    rw [e0]
    exact hr r q a1 (by rw [h1, l1] at a2'; exact a2')
  · unfold aAn
    rw [q1, q3]
    exact hv.2 i hi
theorem LV_rul {kd n : Int32} {m : jM} (hL : LV kd n m) : ∀ r q : Nat, r < 4 → (q : Int) < n.toInt → 0 ≤ (m (6 + r) q).toInt ∧ (m (6 + r) q).toInt < (aDn kd : Int) := by
  obtain ⟨l0, l1, ⟨cnt, hc, l7, hv⟩, l4, l8, l19, l2⟩ := hL
  intro r q a1 a2
  have h9 := hv.1.2.2 r q a1 (by show (q : Int) < (m 1 1).toInt; rw [l1]; exact a2)
  have e : (vQ m).2.2.1 r q = m (6 + r) q := if_pos ⟨a1, by rw [l1]; exact a2⟩
  rw [e] at h9
  have e0 : (vQ m).1 = kd := l0
  rw [e0] at h9
  exact h9
theorem jtb_o {h : jM} {w : Int64} {m t k a : Nat} (h1 : ¬ a = 10) (h2 : ¬ a = 4) : jtb h w m t k a = h a := by
  funext i
  unfold jtb
  rw [if_neg (fun z => h1 z.1), if_neg (fun z => h2 z.1)]
theorem LV_type {kd n : Int32} {m : jM} {w : Int64} (hL : LV kd n m) : LV kd n (typeM m w) := by
  unfold typeM
  by_cases c : m 4 2 + 1 ≤ 12
  · rw [if_pos c]
    have ht := hL.2.2.2.1
    obtain ⟨j, hj, ej⟩ := jnat (N := 12) ht.1 (by have := ht.2; omega)
    rw [ej, nI_1, show (12 : Int32) = nI 12 from rfl, nI_leI (by omega) (by decide)] at c
    have e9 : (m 4 2).toInt.toNat = j := by rw [ej, nI_toInt (by omega)]; rfl
    refine LV_of hL (jtb_o (by decide) (by decide)) (jtb_o (by decide) (by decide)) (jtb_o (by decide) (by decide)) (jtb_o (by decide) (by decide)) (fun a ha => jtb_o (by omega) (by omega)) ?_ (fun r q a1 a2 => by rw [jtb_o (by omega) (by omega)]; exact LV_rul hL r q a1 a2)
    rw [jtb_2, e9]
    have : (1 : Int32).toInt.toNat - 0 = 1 := rfl
    rw [this, nI_toInt (by omega)]
    omega
  · rw [if_neg c]
    exact hL
theorem LV_rule {kd n : Int32} {m : jM} {i : Nat} (hi : i < 4) (hL : LV kd n m) : LV kd n (ruleM m i) := by
  unfold ruleM
  by_cases c : jfits m (m 1 1) (jdirs m)
  · rw [if_pos c]
    have o : ∀ a, ¬ a = 24 → ¬ a = 4 → ¬ a = 6 + i → (up2 (up2 (jset m True i (jdirs m) (m 4 2).toInt.toNat) 4 2 0) 24 1 1) a = m a := fun a a1 a2 a3 => by
      rw [up2_n a1, up2_n a2, jset_o _ _ _ _ _ a3]
    refine LV_of hL (o 0 (by decide) (by decide) (by omega)) (o 1 (by decide) (by decide) (by omega)) (o 2 (by decide) (by decide) (by omega)) (o 19 (by decide) (by decide) (by omega)) (fun a ha => o a (by omega) (by omega) (by omega)) ?_ (fun r q a1 a2 => ?_)
    · rw [up2_n (by decide), up2_s, upd_s]
      decide
    · rw [up2_n (by omega), up2_n (by omega)]
      unfold jset
      by_cases c2 : True ∧ 6 + r = 6 + i ∧ q < (m 4 2).toInt.toNat
      · rw [if_pos c2]
        have h9 := c.2 q c2.2.2
        have e0 : m 1 0 = kd := hL.1
        have h8 := aDn_dirs m
        rw [e0] at h8
        rw [h8]
        rcases jtof_ok (m 10 q).toInt (jdirs_46 m) with z | z
        · exact absurd z.1 h9
        · exact z.2.2
      · rw [if_neg c2]
        exact LV_rul hL r q a1 a2
  · rw [if_neg c]
    refine LV_of hL (up2_n (by decide)) (up2_n (by decide)) (up2_n (by decide)) (up2_n (by decide)) (fun a ha => up2_n (by omega)) ?_ (fun r q a1 a2 => by rw [up2_n (by omega)]; exact LV_rul hL r q a1 a2)
    rw [up2_s, upd_s]
    decide
theorem LV_ant {kd n x y d r : Int32} {m : jM} (hL : LV kd n m) : LV kd n (antM m x y d r) := by
  unfold antM
  by_cases c : onF x y ∧ (0 ≤ d ∧ d ≤ jdirs m - 1) ∧ 0 ≤ r ∧ r ≤ 3
  · rw [if_pos c]
    by_cases z : 6 ≤ m 0 7
    · rw [if_pos z]; exact hL
    · rw [if_neg z]
      obtain ⟨l0, l1, ⟨cnt, hc, l7, hv⟩, l4, l8, l19, l2⟩ := hL
      have hlt : cnt < 6 := by
        rw [l7, show (6 : Int32) = nI 6 from rfl, nI_leI (by decide) (by omega)] at z
        omega
      rw [l7, nI_clamp (show cnt < 2147483648 by omega), nI_1]
      obtain ⟨G, hG⟩ : ∃ G, G = up2 (up2 (upAnt m (12 + cnt) x y d r) 0 7 (nI (cnt + 1))) 24 1 1 := ⟨_, rfl⟩
      rw [← hG]
      have o : ∀ a, ¬ a = 24 → ¬ a = 0 → ¬ (12 ≤ a ∧ a < 18) → G a = m a := fun a a1 a2 a3 => by rw [hG, up2_n a1, up2_n a2, upAnt_lit hlt a3]
      have g0 : G 0 = upd (m 0) 7 (nI (cnt + 1)) := by rw [hG, up2_n (by decide), up2_s, upAnt_lit hlt (by decide)]
      have eS : vS G = ((vS m).1, upd (vS m).2.1 cnt x, upd (vS m).2.2.1 cnt y, upd (vS m).2.2.2 cnt d) := by
        rw [← ev_vSa m hlt x y d r, hG]
        exact vS_of (by rw [up2_n (by decide), up2_n (by decide)]) (fun a ha => by rw [up2_n (by omega), up2_n (by omega)])
      have eQ : vQ G = ((vQ m).1, (vQ m).2.1, (vQ m).2.2.1, upd (vQ m).2.2.2 cnt r) := by
        rw [← ev_vQa m hlt x y d r, hG]
        exact vQ_of (by rw [up2_n (by decide), up2_n (by decide)]) (fun a ha => by rw [up2_n (by omega), up2_n (by omega)]) (fun a ha => by rw [up2_n (by omega), up2_n (by omega)])
      have hd : vp_in d (aDn (m 1 0)) := by
        have h9 := c.2.1
        have eD : jdirs m = nI (aDn (m 1 0)) := by
          apply Int32.toInt_inj.mp
          rw [← aDn_dirs m, nI_toInt (by have := (aDn_le (m 1 0)).2; omega)]
        rw [eD] at h9
        have e9 := idx_lt h9 (by have := (aDn_le (m 1 0)).2; omega)
        have a1 : (0 : Int) ≤ d.toInt := le_of_lit h9.1
        have := clamp_int a1
        exact vp_in_iff.mpr ⟨a1, by omega⟩
      have hr : vp_in r 4 := by
        have h9 := c.2.2
        have a1 : (0 : Int) ≤ r.toInt := le_of_lit h9.1
        have a2 : r.toInt ≤ (3 : Int) := le_of_lit h9.2
        exact vp_in_iff.mpr ⟨a1, by omega⟩
      refine ⟨by rw [o 1 (by decide) (by decide) (by decide)]; exact l0, by rw [o 1 (by decide) (by decide) (by decide)]; exact l1, ⟨cnt + 1, by omega, by rw [g0, upd_s], ?_⟩, by rw [o 4 (by decide) (by decide) (by decide)]; exact l4, by rw [g0, upd_n (by decide)]; exact l8, by rw [o 19 (by decide) (by decide) (by decide)]; exact l19, by rw [o 2 (by decide) (by decide) (by decide)]; exact l2⟩
      rw [eS, eQ]
      refine ⟨hv.1, fun i hi => ?_⟩
      unfold aAn
      by_cases e : i = cnt
      · subst e
        refine ⟨?_, ?_, ?_⟩
        · show onF (upd (vS m).2.1 i x i) (upd (vS m).2.2.1 i y i)
          rw [upd_s, upd_s]; exact c.1
        · show vp_in (upd (vS m).2.2.2 i d i) _
          rw [upd_s]; exact hd
        · show vp_in (upd (vQ m).2.2.2 i r i) _
          rw [upd_s]; exact hr
      · obtain ⟨a1, a2, a3⟩ := hv.2 i (by omega)
        refine ⟨?_, ?_, ?_⟩
        · show onF (upd (vS m).2.1 cnt x i) (upd (vS m).2.2.1 cnt y i)
          rw [upd_n e, upd_n e]; exact a1
        · show vp_in (upd (vS m).2.2.2 cnt d i) _
          rw [upd_n e]; exact a2
        · show vp_in (upd (vQ m).2.2.2 cnt r i) _
          rw [upd_n e]; exact a3
  · rw [if_neg c]; exact hL
-- what lays asks of the script
def rmI (x D : Int32) : Int32 := x - x / D * D
def lyK (LL : Nat) (xs : Nat → Int32) : Int32 := nI (cellC LL xs 0) &&& 1
def lyN (LL : Nat) (xs : Nat → Int32) : Nat := 2 + cellC LL xs 1 % 11
def lyX (LL : Nat) (xs : Nat → Int32) (r k : Nat) : Int32 := nI (cellC LL xs (2 + nI r * 3 + nI k)) >>> (nI k &&& 31)
def ltr (kd x : Int32) : Int32 := if rmI x 4 = 0 then 78 else if rmI x 4 = 1 then 82 else if rmI x 4 = 2 then 76 else if rmI x 8 = 3 then 85 else if kd = 0 then 82 else if rmI x 16 = 7 then 83 else 77
noncomputable def rowM (LL : Nat) (xs : Nat → Int32) (r : Nat) (h : jM) : Nat → jM
  | 0 => h
  | k + 1 => typeM (rowM LL xs r h k) (ltr (lyK LL xs) (lyX LL xs r k)).toInt64
noncomputable def rulM (LL : Nat) (xs : Nat → Int32) (h : jM) : Nat → jM
  | 0 => cFloor h (lyK LL xs) (nI (lyN LL xs))
  | r + 1 => ruleM (rowM LL xs r (rulM LL xs h r) (lyN LL xs)) r
def lyW (LL : Nat) (xs : Nat → Int32) (a : Nat) : Int32 := nI (cellC LL xs (21 + nI a))
noncomputable def antsM (LL : Nat) (xs : Nat → Int32) (h : jM) : Nat → jM
  | 0 => rulM LL xs h 4
  | a + 1 => antM (antsM LL xs h a) (rmI (lyW LL xs a) 15 - 7) (rmI (lyW LL xs a >>> (4 &&& 31)) 15 - 7) (rmI (lyW LL xs a >>> (8 &&& 31)) (if lyK LL xs = 0 then 4 else 6)) (lyW LL xs a >>> (12 &&& 31) &&& 3)
def lyA (LL : Nat) (xs : Nat → Int32) : Nat := 1 + cellC LL xs 20 % 4
noncomputable def lyM (LL : Nat) (xs : Nat → Int32) (h : jM) : jM := antsM LL xs h (lyA LL xs)
theorem lyN_b (LL : Nat) (xs : Nat → Int32) : 2 ≤ lyN LL xs ∧ lyN LL xs ≤ 12 := by unfold lyN; omega
theorem lyK_ok (LL : Nat) (xs : Nat → Int32) : lyK LL xs = 0 ∨ lyK LL xs = 1 := by
  unfold lyK
  generalize nI (cellC LL xs 0) = v
  have : v.toBitVec &&& 1#32 = 0#32 ∨ v.toBitVec &&& 1#32 = 1#32 := by
    generalize v.toBitVec = b
    rcases Nat.mod_two_eq_zero_or_one b.toNat with z | z
    · left
      apply BitVec.eq_of_toNat_eq
      rw [BitVec.toNat_and]
      show b.toNat &&& 1 = 0
      rw [Nat.and_one_is_mod, z]
    · right
      apply BitVec.eq_of_toNat_eq
      rw [BitVec.toNat_and]
      show b.toNat &&& 1 = 1
      rw [Nat.and_one_is_mod, z]
  rcases this with z | z
  · left
    apply Int32.toBitVec_inj.mp
    rw [Int32.toBitVec_and]
    exact z
  · right
    apply Int32.toBitVec_inj.mp
    rw [Int32.toBitVec_and]
    exact z
theorem LV_row {LL : Nat} {xs : Nat → Int32} {kd n : Int32} {r : Nat} {h : jM} (hL : LV kd n h) : ∀ k, LV kd n (rowM LL xs r h k)
  | 0 => hL
  | k + 1 => LV_type (LV_row hL k)
theorem LV_rulM {LL : Nat} {xs : Nat → Int32} {h : jM} (ht : 0 ≤ (h 4 2).toInt ∧ (h 4 2).toInt ≤ 12) : ∀ r, r ≤ 4 → LV (lyK LL xs) (nI (lyN LL xs)) (rulM LL xs h r)
  | 0, _ => LV_floor ht (by
    have hb := lyN_b LL xs
    rw [show (2 : Int32) = nI 2 from rfl, show (12 : Int32) = nI 12 from rfl, nI_leI (by decide) (by omega), nI_leI (by omega) (by decide)]
    exact hb)
  | r + 1, hr => LV_rule (by omega) (LV_row (LV_rulM ht r (by omega)) _)
theorem LV_ants {LL : Nat} {xs : Nat → Int32} {h : jM} (ht : 0 ≤ (h 4 2).toInt ∧ (h 4 2).toInt ≤ 12) : ∀ a, LV (lyK LL xs) (nI (lyN LL xs)) (antsM LL xs h a)
  | 0 => LV_rulM ht 4 (by omega)
  | a + 1 => LV_ant (LV_ants ht a)
theorem LV_Ob {kd n : Int32} {m : jM} (hL : LV kd n m) : ∃ cnt, Ob cnt 0 m := by
  obtain ⟨l0, l1, ⟨cnt, hc, l7, hv⟩, l4, l8, l19, l2⟩ := hL
  refine ⟨cnt, hc, l7, hv, ?_, ?_⟩
  · rw [l19]; decide
  · rw [l19]; decide
