/-! ===== road, like, bounds: coupled ===== -/
theorem road_iff {k : Nat} {h : jM} (c : CP k h) (ht : ¬ h 24 0 = 0) : cRoad h ↔ mRoad h := by
  obtain ⟨cnt, hc6, e0, e8, hv⟩ := c.2.1
  obtain ⟨x1, x2, x3, x4⟩ := CP_ant c (i := 0) (by omega)
  obtain ⟨t0, t1, t2, ⟨t3, t4, t5, t6⟩, t7, t8, t9⟩ := c.2.2.2.2.2.2.1
  have e4 : h 37 4 = h 0 8 := c.2.2.2.1
  have e38 := CP_col c
  have tr := (t9 ht).1
  have f42 : h 42 0 = h 12 0 := x1
  have f43 : h 43 0 = h 12 1 := x2
  have f44 : h 44 0 = h 12 2 := x3
  have f45 : h 45 0 = h 12 3 := x4
  unfold cRoad mRoad
  rw [f42, f43, f44, f45, t2, t3, t4, t5, t6, t7, e4, e38, e8, e0, t1]
  constructor
  · rintro ⟨a1, ⟨a2, a3⟩, a4, ⟨a5, a6⟩, a7, a8⟩
    exact ⟨a1, a2, a3, a4, a5, a6, a7, fun P hP hm => a8 P hP (fun z => hm ((tr P hP).mpr z))⟩
  · rintro ⟨a1, a2, a3, a4, a5, a6, a7, a8⟩
    exact ⟨a1, ⟨a2, a3⟩, a4, ⟨a5, a6⟩, a7, fun P hP hm => a8 P hP (fun z => hm ((tr P hP).mp z))⟩
theorem cp_road {k : Nat} {h : jM} {K : List jK} (c : CP k h) (hM : jXM K) (w : Int32) : cpl k K h T_X6_road T_X7_road [.ref 0, .int w] [.ref 37, .int w] := by
  intro Q hQ
  obtain ⟨x1, x2, x3, x4⟩ := CP_ant c (i := 0) (by omega)
  have f42 : h 42 0 = h 12 0 := x1
  have f43 : h 43 0 = h 12 1 := x2
  obtain ⟨t0, t1, t2, ⟨t3, t4, t5, t6⟩, t7, t8, t9⟩ := c.2.2.2.2.2.2.1
  have e4 : h 37 4 = h 0 8 := c.2.2.2.1
  have o1 : onF (h 42 0) (h 43 0) := by rw [f42, f43]; exact c.2.2.2.2.2.2.2.2
  have o2 : onF (h 37 25) (h 37 26) := by rw [t3, t4]; exact t8
  show _ ∧ _
  refine ⟨rfl, jXM_X hM, fun z => hQ _ _ (fun Q2 h2 => ?_), fun y => ⟨fun z => hQ _ _ (fun Q2 h2 => ?_), fun z => ⟨fun w3 => hQ _ _ (fun Q2 h2 => ?_), fun w3 => ⟨fun r => hQ _ _ (fun Q2 h2 => ?_), fun r => hQ _ _ (fun Q2 h2 => ?_)⟩⟩⟩⟩
  · show _ ∧ _
    exact ⟨rfl, hM, o1, o2, fun _ => h2 _ (CP_mono c), fun y => absurd y z⟩
  · show _ ∧ _
    rw [t0]
    exact ⟨rfl, hM, o1, o2, fun n => absurd y n, fun _ => ⟨fun _ => h2 _ (CP_mono c), fun n => absurd z n⟩⟩
  · show _ ∧ _
    rw [t0]
    refine ⟨rfl, hM, o1, o2, fun n => absurd y n, fun _ => ⟨fun n => absurd n z, fun _ => ⟨fun _ => ?_, fun n => absurd w3 n⟩⟩⟩
    have e : jcnt (fun k => ¬ h 51 k = 0) 57600 = jcnt (fun k => ¬ h 27 k = 0) 57600 := jcnt_congr (fun i hi => not_congr ((t9 z).1 i hi))
    rw [e, ← (t9 z).2]
    exact h2 _ (CP_mono c)
  · show _ ∧ _
    rw [t0]
    exact ⟨rfl, hM, o1, o2, fun n => absurd y n, fun _ => ⟨fun n => absurd n z, fun _ => ⟨fun q => absurd q w3, fun _ => ⟨fun _ => h2 _ (CP_mono c), fun q => absurd ((road_iff c z).mpr q) r⟩⟩⟩⟩
  · show _ ∧ _
    rw [t0]
    refine ⟨rfl, hM, o1, o2, fun n => absurd y n, fun _ => ⟨fun n => absurd n z, fun _ => ⟨fun q => absurd q w3, fun _ => ⟨fun q => absurd ((road_iff c z).mp r) q, fun _ => ?_⟩⟩⟩⟩
    rw [f42, f43, t2, t3, t4, e4]
    have w0 : w.toInt = 0 ↔ w = 0 := Int32.toInt_inj (y := 0)
    have w1 : w.toInt = 1 ↔ w = 1 := Int32.toInt_inj (y := 1)
    simp only [w0, w1] at h2
    exact h2 _ (CP_mono c)
/-! like -/
theorem i32_ss (a x : Int32) : a - (a - x) = x := by
  have e : a = x + (a - x) := by rw [Int32.add_comm, i32_sa]
  rw [show a - (a - x) = (x + (a - x)) - (a - x) by rw [← e], i32_as]
theorem jim_inv {w : Int32} (hw : w = 0 ∨ w = 1 ∨ w = 2 ∨ w = 3 ∨ w = 4) (a b x y : Int32) : jimX w.toInt a (jimX w.toInt a x y) (jimY w.toInt a b x y) = x ∧ jimY w.toInt a b (jimX w.toInt a x y) (jimY w.toInt a b x y) = y := by
  rcases hw with rfl | rfl | rfl | rfl | rfl
  · exact ⟨i32_ss a x, i32_ss b y⟩
  · exact ⟨i32_ss a x, rfl⟩
  · exact ⟨rfl, i32_ss b y⟩
  · exact ⟨i32_sa x a, i32_as y a⟩
  · exact ⟨i32_ss a x, i32_ss a y⟩
theorem on_O {P : Nat} (hP : P < 57600) : onF (xO P) (yO P) := oI_on (Nat.mod_lt _ (by decide)) (by omega)
theorem jpl_O {P : Nat} (hP : P < 57600) : (jpl (xO P) (yO P)).toNatClampNeg = P := by
  have e : jpl (xO P) (yO P) = nI (P / 240 * 240 + P % 240) := oI_jpl (Nat.mod_lt _ (by decide)) (by omega)
  rw [e, nI_clamp (by omega)]
  omega
theorem jcol_O (f : Nat → Int32) {P : Nat} (hP : P < 57600) : jcol f (xO P) (yO P) = f P := by
  unfold jcol
  rw [if_pos (on_O hP), jpl_O hP]
theorem O_jpl {u v : Int32} (h : onF u v) : ∃ P, P < 57600 ∧ (jpl u v).toNatClampNeg = P ∧ xO P = u ∧ yO P = v := by
  have e := jpl_int h
  have b := onF_int h
  have hlt := vp_in_clamp (jpl_in h)
  have hc := clamp_int (x := jpl u v) (by omega)
  refine ⟨_, hlt, rfl, ?_, ?_⟩
  · apply Int32.toInt_inj.mp
    unfold xO
    rw [oI_int (by have := Nat.mod_lt (jpl u v).toNatClampNeg (show 0 < 240 by decide); omega)]
    omega
  · apply Int32.toInt_inj.mp
    unfold yO
    rw [oI_int (by omega)]
    omega
theorem like_iff (f : Nat → Int32) {w : Int32} (hw : w = 0 ∨ w = 1 ∨ w = 2 ∨ w = 3 ∨ w = 4) (a b : Int32) : (∀ P, P < 57600 → ¬ f P = 0 → f P = jcol f (jimX w.toInt a (xO P) (yO P)) (jimY w.toInt a b (xO P) (yO P))) ↔ (∀ P, P < 57600 → f P = jcol f (jimX w.toInt a (xO P) (yO P)) (jimY w.toInt a b (xO P) (yO P))) := by
  constructor
  · intro g P hP
    by_cases e : f P = 0
    · rw [e]
      by_cases on : onF (jimX w.toInt a (xO P) (yO P)) (jimY w.toInt a b (xO P) (yO P))
      · obtain ⟨R, hR, eR, ex, ey⟩ := O_jpl on
        obtain ⟨i1, i2⟩ := jim_inv hw a b (xO P) (yO P)
        have ec : jcol f (jimX w.toInt a (xO P) (yO P)) (jimY w.toInt a b (xO P) (yO P)) = f R := by
          unfold jcol
          rw [if_pos on, eR]
        rw [ec]
        by_cases z : f R = 0
        · exact z.symm
        · have := g R hR z
          rw [ex, ey, i1, i2, jcol_O f hP, e] at this
          exact absurd this z
      · unfold jcol
        rw [if_neg on]
    · exact g P hP e
  · exact fun g P hP _ => g P hP
theorem cp_like {k : Nat} {h : jM} {K : List jK} (c : CP k h) (hM : jXM K) (w a b : Int32) : cpl k K h T_X6_like T_X7_like [.ref 0, .int w, .int a, .int b] [.ref 37, .int w, .int a, .int b] := by
  intro Q hQ
  obtain ⟨k0, k1⟩ := CP_kind c
  have e38 := CP_col c
  show _ ∧ _
  refine ⟨rfl, jXM_X hM, fun z => hQ _ _ (fun Q2 h2 => ?_), fun y => ⟨fun z => hQ _ _ (fun Q2 h2 => ?_), fun z => hQ _ _ (fun Q2 h2 => ?_)⟩⟩
  · show _ ∧ _
    exact ⟨rfl, hM, fun _ => h2 _ (CP_mono c), fun y => absurd y z⟩
  · show _ ∧ _
    rw [k0]
    exact ⟨rfl, hM, fun n => absurd y n, fun _ => ⟨fun _ => h2 _ (CP_mono c), fun n => absurd z n⟩⟩
  · show _ ∧ _
    rw [k0]
    refine ⟨rfl, hM, fun n => absurd y n, fun _ => ⟨fun n => absurd n z, fun _ => ?_⟩⟩
    have e : (∀ P, P < 57600 → h 38 P = mimC h w a b P) = (∀ P, P < 57600 → ¬ h 2 P = 0 → h 2 P = jimC h w a b P) := by
      rw [e38]
      apply propext
      unfold mimC jimC
      rw [e38]
      exact (like_iff (h 2) (w5 y.1) a b).symm
    rw [e]
    exact h2 _ (CP_mono c)
/-! bounds -/
theorem o120 {c : Nat} (hc : c ≤ 1000) : (nI c - 120).toInt = (c : Int) - 120 := by
  have e1 : (nI c).toInt = (c : Int) := nI_toInt (by omega)
  have e2 : (120 : Int32).toInt = 120 := rfl
  rw [ti_sub (by rw [e1, e2]; omega) (by rw [e1, e2]; omega), e1, e2]
theorem o120_le {a b : Nat} (ha : a ≤ 1000) (hb : b ≤ 1000) : nI a - 120 ≤ nI b - 120 ↔ a ≤ b := by
  rw [Int32.le_iff_toInt_le, o120 ha, o120 hb]
  omega
theorem mBd_ok {h : jM} {w : Int32} {col : Nat → Nat} (hcol : ∀ k, mBc w k = nI (col k) - 120) (hlt : ∀ k, k < 57600 → col k < 240) : ∀ n, n ≤ 57600 → ((∀ k, k < n → h 38 k = 0) ∧ mBd h w n = (1000, -1000)) ∨ (∃ lo hi, lo < 240 ∧ hi < 240 ∧ mBd h w n = (nI lo - 120, nI hi - 120) ∧ (∃ i, i < n ∧ ¬ h 38 i = 0 ∧ col i = lo) ∧ (∃ i, i < n ∧ ¬ h 38 i = 0 ∧ col i = hi) ∧ ∀ k, k < n → ¬ h 38 k = 0 → lo ≤ col k ∧ col k ≤ hi)
  | 0, _ => Or.inl ⟨fun k hk => absurd hk (by omega), rfl⟩
  | n + 1, hn => by
    have ih := mBd_ok (h := h) hcol hlt n (by omega)
    by_cases z : h 38 n = 0
    · have e : mBd h w (n + 1) = mBd h w n := by rw [mBd_s, if_pos z]
      rw [e]
      rcases ih with ⟨a, b⟩ | ⟨lo, hi, a1, a2, a3, ⟨i, b1, b2, b3⟩, ⟨j, d1, d2, d3⟩, a6⟩
      · refine Or.inl ⟨fun k hk => ?_, b⟩
        by_cases e : k = n
        · rw [e]; exact z
        · exact a k (by omega)
      · refine Or.inr ⟨lo, hi, a1, a2, a3, ⟨i, by omega, b2, b3⟩, ⟨j, by omega, d2, d3⟩, fun k hk hz => ?_⟩
        by_cases e : k = n
        · rw [e] at hz; exact absurd z hz
        · exact a6 k (by omega) hz
    · have hc := hlt n (by omega)
      have e : mBd h w (n + 1) = (if (mBd h w n).1 ≤ nI (col n) - 120 then (mBd h w n).1 else nI (col n) - 120, if nI (col n) - 120 ≤ (mBd h w n).2 then (mBd h w n).2 else nI (col n) - 120) := by rw [mBd_s, if_neg z, hcol]
      rw [e]
      rcases ih with ⟨a, b⟩ | ⟨lo, hi, a1, a2, a3, ⟨i, b1, b2, b3⟩, ⟨j, d1, d2, d3⟩, a6⟩
      · rw [b]
        have n1 : ¬ (1000 : Int32) ≤ nI (col n) - 120 := by
          rw [Int32.le_iff_toInt_le, o120 (by omega)]
          have : (1000 : Int32).toInt = 1000 := rfl
          omega
        have n2 : ¬ nI (col n) - 120 ≤ (-1000 : Int32) := by
          rw [Int32.le_iff_toInt_le, o120 (by omega)]
          have : (-1000 : Int32).toInt = -1000 := rfl
          omega
        refine Or.inr ⟨col n, col n, hc, hc, ?_, ⟨n, by omega, z, rfl⟩, ⟨n, by omega, z, rfl⟩, fun k hk hz => ?_⟩
        · show (if (1000 : Int32) ≤ _ then _ else _, if _ ≤ (-1000 : Int32) then _ else _) = _
          rw [if_neg n1, if_neg n2]
        · by_cases e : k = n
          · rw [e]; exact ⟨Nat.le_refl _, Nat.le_refl _⟩
          · exact absurd (a k (by omega)) hz
      · rw [a3]
        show _ ∨ ∃ l2 h2, _ ∧ _ ∧ (if nI lo - 120 ≤ nI (col n) - 120 then nI lo - 120 else nI (col n) - 120, if nI (col n) - 120 ≤ nI hi - 120 then nI hi - 120 else nI (col n) - 120) = _ ∧ _
        right
        refine ⟨if lo ≤ col n then lo else col n, if col n ≤ hi then hi else col n, ?_, ?_, ?_, ?_, ?_, fun k hk hz => ?_⟩
        · split <;> assumption
        · split <;> assumption
        · by_cases q1 : lo ≤ col n
          · by_cases q2 : col n ≤ hi
            · rw [if_pos q1, if_pos q2, if_pos ((o120_le (by omega) (by omega)).mpr q1), if_pos ((o120_le (by omega) (by omega)).mpr q2)]
            · rw [if_pos q1, if_neg q2, if_pos ((o120_le (by omega) (by omega)).mpr q1), if_neg (fun z => q2 ((o120_le (by omega) (by omega)).mp z))]
          · by_cases q2 : col n ≤ hi
            · rw [if_neg q1, if_pos q2, if_neg (fun z => q1 ((o120_le (by omega) (by omega)).mp z)), if_pos ((o120_le (by omega) (by omega)).mpr q2)]
            · rw [if_neg q1, if_neg q2, if_neg (fun z => q1 ((o120_le (by omega) (by omega)).mp z)), if_neg (fun z => q2 ((o120_le (by omega) (by omega)).mp z))]
        · by_cases q1 : lo ≤ col n
          · rw [if_pos q1]; exact ⟨i, by omega, b2, b3⟩
          · rw [if_neg q1]; exact ⟨n, by omega, z, rfl⟩
        · by_cases q1 : col n ≤ hi
          · rw [if_pos q1]; exact ⟨j, by omega, d2, d3⟩
          · rw [if_neg q1]; exact ⟨n, by omega, z, rfl⟩
        · by_cases e : k = n
          · rw [e]
            refine ⟨?_, ?_⟩ <;> split <;> omega
          · have := a6 k (by omega) hz
            refine ⟨?_, ?_⟩ <;> split <;> omega
theorem jcu_of {f : Nat → Int32} {k : Nat} (hk : k < 57600) (h : ¬ f k = 0) : jcu f (k % 240) := ⟨k / 240, by omega, by rw [show k % 240 + 240 * (k / 240) = k by omega]; exact h⟩
theorem jbo_n {c : Nat} (hc : c < 240) : jbo (nI c) = nI c - 120 := by
  unfold jbo
  rw [if_neg (nI_pos (by omega)), Int32.sub_eq_add_neg]
/-- what the reference answers, by what its floor shows -/
theorem bd_none {h : jM} {w : Int32} {col : Nat → Nat} (hcol : ∀ k, mBc w k = nI (col k) - 120) (hlt : ∀ k, k < 57600 → col k < 240) (hz : ∀ k, k < 57600 → h 38 k = 0) : (mBd h w 57600).2 < (mBd h w 57600).1 := by
  rcases mBd_ok (h := h) hcol hlt 57600 (Nat.le_refl _) with ⟨a, b⟩ | ⟨lo, hi, a1, a2, a3, ⟨i, b1, b2, b3⟩, -⟩
  · rw [b]; decide
  · exact absurd (hz i b1) b2
theorem bd_some {h : jM} {w : Int32} {col : Nat → Nat} (hcol : ∀ k, mBc w k = nI (col k) - 120) (hlt : ∀ k, k < 57600 → col k < 240) {i : Nat} (hi : i < 57600) (hz : ¬ h 38 i = 0) : ¬ (mBd h w 57600).2 < (mBd h w 57600).1 ∧ ((∀ k, k < 57600 → ¬ h 38 k = 0 → col i ≤ col k) → (mBd h w 57600).1 = nI (col i) - 120) ∧ ((∀ k, k < 57600 → ¬ h 38 k = 0 → col k ≤ col i) → (mBd h w 57600).2 = nI (col i) - 120) := by
  rcases mBd_ok (h := h) hcol hlt 57600 (Nat.le_refl _) with ⟨a, b⟩ | ⟨lo, hi2, a1, a2, a3, ⟨p, b1, b2, b3⟩, ⟨q, d1, d2, d3⟩, a6⟩
  · exact absurd (a i hi) hz
  · rw [a3]
    refine ⟨?_, fun g => ?_, fun g => ?_⟩
    · show ¬ nI hi2 - 120 < nI lo - 120
      have := a6 i hi hz
      rw [Int32.lt_iff_toInt_lt, o120 (by omega), o120 (by omega)]
      omega
    · show nI lo - 120 = _
      have x1 := g p b1 b2
      have x2 := a6 i hi hz
      rw [show lo = col i by omega]
    · show nI hi2 - 120 = _
      have x1 := g q d1 d2
      have x2 := a6 i hi hz
      rw [show hi2 = col i by omega]
theorem cp_bounds {k : Nat} {h : jM} {K : List jK} (c : CP k h) (hM : jXM K) (w : Int32) : cpl k K h T_X6_bounds T_X7_bounds [.ref 0, .int w] [.ref 37, .int w] := by
  intro Q hQ
  have e38 := CP_col c
  have wl : (0 ≤ w ∧ w ≤ 3) ↔ (0 ≤ w.toInt ∧ w.toInt ≤ 3) := by
    rw [Int32.le_iff_toInt_le, Int32.le_iff_toInt_le]
    exact Iff.rfl
  have cx : ∀ w : Int32, w < 2 → ∀ k, mBc w k = nI (k % 240) - 120 := fun w hw k => by unfold mBc; rw [if_pos hw]
  have cy : ∀ w : Int32, ¬ w < 2 → ∀ k, mBc w k = nI (k / 240) - 120 := fun w hw k => by unfold mBc; rw [if_neg hw]
  have lx : ∀ k, k < 57600 → k % 240 < 240 := fun k _ => Nat.mod_lt _ (by decide)
  have ly : ∀ k, k < 57600 → k / 240 < 240 := fun k _ => by omega
  have m1 : jbo (-1) = -1001 := by decide
  have en : ∀ {k : Nat}, k < 57600 → (if nI k = -1 then (-1 : Int32) else nI k / 240) = nI (k / 240) := fun {k} hk => by
    rw [if_neg (nI_nm1 (by omega)), e240, jdiv (by omega) (by decide) (by decide)]
  show _ ∧ _
  refine ⟨rfl, jXM_X hM, fun r hw hr => hQ _ _ (fun Q2 h2 => ?_), fun r hw hr => hQ _ _ (fun Q2 h2 => ?_), fun r hw hr => hQ _ _ (fun Q2 h2 => ?_), fun r hw hr => hQ _ _ (fun Q2 h2 => ?_), fun z => hQ _ _ (fun Q2 h2 => ?_)⟩
  · have e : w = 0 := Int32.toInt_inj.mp hw
    subst e
    show _ ∧ _
    refine ⟨rfl, hM, fun n => absurd (by decide) n, fun _ b hb => ?_⟩
    subst hb
    rcases hr with ⟨p, hp, hc, hl, rfl⟩ | ⟨hl, rfl⟩
    · obtain ⟨r, hr, hz⟩ := hc
      have hi : p + 240 * r < 57600 := by omega
      obtain ⟨g1, g2, g3⟩ := bd_some (h := h) (cx 0 (by decide)) lx hi (by rw [e38]; exact hz)
      refine ⟨fun q => absurd q g1, fun _ => ?_⟩
      rw [if_pos (Or.inl rfl), g2 (fun k hk hkz => ?_), show (p + 240 * r) % 240 = p by omega, ← jbo_n hp]
      · exact h2 _ (CP_mono c)
      · rw [show (p + 240 * r) % 240 = p by omega]
        rw [e38] at hkz
        exact Nat.not_lt.mp (fun z => hl _ z (jcu_of hk hkz))
    · have g1 := bd_none (h := h) (cx 0 (by decide)) lx (fun k hk => by
        rw [e38]
        by_cases z : h 2 k = 0
        · exact z
        · exact absurd (jcu_of hk z) (hl _ (lx k hk)))
      rw [m1] at h2
      exact ⟨fun _ => h2 _ (CP_mono c), fun q => absurd g1 q⟩
  · have e : w = 1 := Int32.toInt_inj.mp hw
    subst e
    show _ ∧ _
    refine ⟨rfl, hM, fun n => absurd (by decide) n, fun _ b hb => ?_⟩
    subst hb
    rcases hr with ⟨p, hp, hc, hl, rfl⟩ | ⟨hl, rfl⟩
    · obtain ⟨r, hr, hz⟩ := hc
      have hi : p + 240 * r < 57600 := by omega
      obtain ⟨g1, g2, g3⟩ := bd_some (h := h) (cx 1 (by decide)) lx hi (by rw [e38]; exact hz)
      refine ⟨fun q => absurd q g1, fun _ => ?_⟩
      rw [if_neg (by decide), g3 (fun k hk hkz => ?_), show (p + 240 * r) % 240 = p by omega, ← jbo_n hp]
      · exact h2 _ (CP_mono c)
      · rw [show (p + 240 * r) % 240 = p by omega]
        rw [e38] at hkz
        exact Nat.not_lt.mp (fun z => hl _ z (lx k hk) (jcu_of hk hkz))
    · have g1 := bd_none (h := h) (cx 1 (by decide)) lx (fun k hk => by
        rw [e38]
        by_cases z : h 2 k = 0
        · exact z
        · exact absurd (jcu_of hk z) (hl _ (lx k hk)))
      rw [m1] at h2
      exact ⟨fun _ => h2 _ (CP_mono c), fun q => absurd g1 q⟩
  · have e : w = 2 := Int32.toInt_inj.mp hw
    subst e
    show _ ∧ _
    refine ⟨rfl, hM, fun n => absurd (by decide) n, fun _ b hb => ?_⟩
    subst hb
    rcases hr with ⟨p, hp, hz, hl, rfl⟩ | ⟨hl, rfl⟩
    · obtain ⟨g1, g2, g3⟩ := bd_some (h := h) (cy 2 (by decide)) ly hp (by rw [e38]; exact hz)
      refine ⟨fun q => absurd q g1, fun _ => ?_⟩
      rw [en hp, jbo_n (ly p hp)] at h2
      rw [if_pos (Or.inr rfl), g2 (fun k hk hkz => ?_)]
      · exact h2 _ (CP_mono c)
      · rw [e38] at hkz
        have : p ≤ k := Nat.not_lt.mp (fun z => hl _ z hkz)
        omega
    · have g1 := bd_none (h := h) (cy 2 (by decide)) ly (fun k hk => by
        rw [e38]
        exact Classical.not_not.mp (hl k hk))
      rw [if_pos rfl, m1] at h2
      exact ⟨fun _ => h2 _ (CP_mono c), fun q => absurd g1 q⟩
  · have e : w = 3 := Int32.toInt_inj.mp hw
    subst e
    show _ ∧ _
    refine ⟨rfl, hM, fun n => absurd (by decide) n, fun _ b hb => ?_⟩
    subst hb
    rcases hr with ⟨p, hp, hz, hl, rfl⟩ | ⟨hl, rfl⟩
    · obtain ⟨g1, g2, g3⟩ := bd_some (h := h) (cy 3 (by decide)) ly hp (by rw [e38]; exact hz)
      refine ⟨fun q => absurd q g1, fun _ => ?_⟩
      rw [en hp, jbo_n (ly p hp)] at h2
      rw [if_neg (by decide), g3 (fun k hk hkz => ?_)]
      · exact h2 _ (CP_mono c)
      · rw [e38] at hkz
        have : k ≤ p := Nat.not_lt.mp (fun z => hl _ z hk hkz)
        omega
    · have g1 := bd_none (h := h) (cy 3 (by decide)) ly (fun k hk => by
        rw [e38]
        exact Classical.not_not.mp (hl k hk))
      rw [if_pos rfl, m1] at h2
      exact ⟨fun _ => h2 _ (CP_mono c), fun q => absurd g1 q⟩
  · show _ ∧ _
    exact ⟨rfl, hM, fun _ => h2 _ (CP_mono c), fun y => absurd (wl.mp y) z⟩
