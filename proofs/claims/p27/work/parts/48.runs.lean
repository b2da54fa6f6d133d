/-! ===== runs of an object, seen as moves ===== -/
def iZ (z : Int) : Int32 := Int32.ofInt z
theorem iZ_toInt {z : Int} (h1 : -2147483648 ≤ z) (h2 : z < 2147483648) : (iZ z).toInt = z := Int32.toInt_ofInt_of_le (by omega) (by omega)
theorem iZ_nI {n : Nat} (h : n < 2147483648) : iZ (n : Int) = nI n := by
  apply Int32.toInt_inj.mp
  rw [iZ_toInt (by omega) (by omega), nI_toInt h]
theorem iZ_neg (z : Int) : iZ (-z) = -iZ z := Int32.ofInt_neg z
theorem iZ_add (a b : Int) : iZ (a + b) = iZ a + iZ b := Int32.ofInt_add a b
theorem iZ_sub (a b : Int) : iZ (a - b) = iZ a - iZ b := Int32.ofInt_sub a b
/-- an object as it runs: its ants, their state, how many meetings at most -/
def Ob (cnt B : Nat) (h : jM) : Prop := cnt ≤ 6 ∧ h 0 7 = nI cnt ∧ aVal (vQ h) (vS h) cnt ∧ 0 ≤ (h 19 0).toInt ∧ (h 19 0).toInt ≤ B
theorem Ob_le {cnt B B2 : Nat} {h : jM} (hO : Ob cnt B h) (hB : B ≤ B2) : Ob cnt B2 h := ⟨hO.1, hO.2.1, hO.2.2.1, hO.2.2.2.1, by have := hO.2.2.2.2; omega⟩
/-- what k steps, forth or back, make of an object -/
def RD (d : Bool) (cnt : Nat) (h : jM) (k : Nat) (g : jM) : Prop := mvV d (vQ h) cnt k (vS h, h 3) (vS g, g 3) ∧ vQ g = vQ h ∧ g 0 7 = h 0 7 ∧ (∀ t : Int, h 0 8 = iZ t → g 0 8 = iZ (t + sgn d k)) ∧ 0 ≤ (g 19 0).toInt ∧ (g 19 0).toInt ≤ (h 19 0).toInt + 6 * k
theorem RD_Ob {d : Bool} {cnt B k : Nat} {h g : jM} (hO : Ob cnt B h) (hR : RD d cnt h k g) : Ob cnt (B + 6 * k) g := by
  obtain ⟨h1, h2, h3, h4, h5, h6⟩ := hR
  refine ⟨hO.1, h3.trans hO.2.1, ?_, h5, by have := hO.2.2.2.2; omega⟩
  rw [h2]
  exact mvS_val hO.2.2.1 (mvV_S h1)
theorem succ_time {cnt : Nat} {g0 g : jM} (hs : cSucc cnt g0 g) : g 0 8 = g0 0 8 + 1 := by
  obtain ⟨-, g1, h1, h2, h3, h4, -, rfl⟩ := hs
  rw [(cNt_o _ cnt cnt).1 0 (by decide), jtr_o _ (by decide) (by decide), up2_s, upd_s, h4 0 (by decide) (by decide) (by decide) (by decide)]
theorem succB_time {cnt : Nat} {g0 g : jM} (hs : cSuccB cnt g0 g) : g 0 8 = g0 0 8 - 1 := by
  obtain ⟨-, g1, h1, h2, h3, h4, rfl⟩ := hs
  rw [up2_n (by decide), up2_s, upd_s, h4 0 (by decide) (by decide) (by decide)]
theorem RD_0 {d : Bool} {cnt : Nat} {h : jM} (h0 : 0 ≤ (h 19 0).toInt) : RD d cnt h 0 h := by
  refine ⟨rfl, rfl, rfl, fun t ht => ?_, h0, by omega⟩
  rw [ht]
  cases d <;> simp [sgn]
theorem it_RD {cnt B : Nat} {h : jM} (hO : Ob cnt B h) : ∀ k, B + 6 * k < 2147483648 → ∀ g, cIt (cSucc cnt) h k g → RD true cnt h k g
  | 0, _, g, hg => by
    cases hg
    exact RD_0 hO.2.2.2.1
  | k + 1, hb, g, hg => by
    obtain ⟨g0, h0, hs⟩ := hg
    have hR := it_RD hO k (by omega) g0 h0
    have hO2 := RD_Ob hO hR
    obtain ⟨b1, b2, b3, b4, b5⟩ := succ_inv hs hO2.2.2.2.1 (by have := hO2.2.2.2.2; have := hO.1; omega)
    obtain ⟨r1, r2, r3, r4, r5, r6⟩ := hR
    refine ⟨?_, b3.trans r2, b4.trans r3, fun t ht => ?_, by omega, by have := hO.1; omega⟩
    · have h9 := mvG_snoc r1 (by rw [← r2]; exact hs.1)
      rw [b1, b2, r2]
      exact h9
    · rw [succ_time hs, r4 t ht, show t + sgn true (k + 1) = (t + sgn true k) + 1 by simp only [sgn, if_true]; omega, iZ_add (t + sgn true k) 1]
      rfl
theorem itB_RD {cnt B : Nat} {h : jM} (hO : Ob cnt B h) : ∀ k g, cIt (cSuccB cnt) h k g → RD false cnt h k g
  | 0, g, hg => by
    cases hg
    exact RD_0 hO.2.2.2.1
  | k + 1, g, hg => by
    obtain ⟨g0, h0, hs⟩ := hg
    have hR := itB_RD hO k g0 h0
    obtain ⟨b1, b2, b3, b4, b5⟩ := succB_inv hs
    obtain ⟨r1, r2, r3, r4, r5, r6⟩ := hR
    refine ⟨?_, b3.trans r2, b4.trans r3, fun t ht => ?_, by rw [b5]; exact r5, by rw [b5]; omega⟩
    · have h9 := mvG_snoc r1 (by rw [← r2]; exact hs.1)
      rw [b1, b2, r2]
      exact h9
    · rw [succB_time hs, r4 t ht, show t + sgn false (k + 1) = (t + sgn false k) - 1 by simp only [sgn, Bool.false_eq_true, if_false]; omega, iZ_sub (t + sgn false k) 1]
      rfl
theorem RD_same {d : Bool} {cnt k : Nat} {h g0 g : jM} (hR : RD d cnt h k g0) (h1 : vS g = vS g0) (h2 : g 3 = g0 3) (h3 : vQ g = vQ g0) (h4 : g 0 = g0 0) (h5 : g 19 = g0 19) : RD d cnt h k g := by
  obtain ⟨r1, r2, r3, r4, r5, r6⟩ := hR
  unfold RD
  rw [h1, h2, h3, h4, h5]
  exact ⟨r1, r2, r3, r4, r5, r6⟩
/-- the answer of a run of k steps -/
def rAns (k : Nat) : Int32 := if k = 0 then -4 else nI k
/-- a run of at most w steps: k of them are done, and one more can't be, if k is less -/
theorem run_D {d : Bool} {cnt B : Nat} {h : jM} {K : List jK} {w : Nat} {n : Int32} {Q : jPost} (hX : jX K) (hO : Ob cnt B h) (hB : B + 13000 < 2147483648) (hw : 1 ≤ w ∧ w ≤ 2000) (hn : n = iZ (sgn d w)) (hQ : ∀ k g, k ≤ w → RD d cnt h k g → (k < w → ¬ okD d (vQ h) cnt (vS g)) → Q (some (.int (rAns k))) K g) : T_X6_run [.ref 0, .int n] K h Q := by
  have hO' := hO
  obtain ⟨o1, o2, o3, o4, o5⟩ := hO'
  have tn : n.toInt = sgn d w := by
    rw [hn]
    exact iZ_toInt (by unfold sgn; cases d <;> simp <;> omega) (by unfold sgn; cases d <;> simp <;> omega)
  have hb2 : sgn d w = w ∨ sgn d w = -(w : Int) := by unfold sgn; cases d <;> simp
  show _ ∧ _
  refine ⟨rfl, hX, cnt, o1, o2, o3, ⟨o4, by omega⟩, fun z => ?_, fun w2 k g0 n0 hw2 en hit => ?_, fun w2 k g0 n0 hw2 en hit => ?_⟩
  · rcases z with z | z
    · rw [z] at tn
      have : (0 : Int32).toInt = 0 := rfl
      omega
    · refine absurd ⟨?_, ?_⟩ z
      · rw [Int32.le_iff_toInt_le, tn]
        show (-2000 : Int) ≤ _
        omega
      · rw [Int32.le_iff_toInt_le, tn]
        show _ ≤ (2000 : Int)
        omega
  · have t2 : (w2 : Int) = sgn d w := by rw [← tn, en, nI_toInt (by omega)]
    have hd : d = true := by
      cases d with
      | true => rfl
      | false =>
        have : sgn false w = -(w : Int) := by simp [sgn]
        omega
    subst hd
    have e2 : sgn true w = (w : Int) := by simp [sgn]
    have e3 : w2 = w := by omega
    subst e3
    refine ⟨fun e => ?_, fun hk g hf => ?_⟩
    · have h9 := hQ k g0 (by omega) (it_RD hO k (by omega) g0 hit) (fun z => absurd z (by omega))
      unfold rAns at h9
      rw [if_neg (by omega)] at h9
      exact h9
    · obtain ⟨f1, f2, f3, f4, f5⟩ := hf
      have hR := it_RD hO k (by omega) g0 hit
      refine hQ k g (by omega) (RD_same hR f2 f3 f4 (f5 0 (by decide) (by decide) (by decide) (by decide)) (f5 19 (by decide) (by decide) (by decide) (by decide))) (fun _ => ?_)
      rw [f2, ← hR.2.1]
      exact f1
  · have t2 : -(w2 : Int) = sgn d w := by rw [← tn, en, ti_neg (by rw [nI_toInt (by omega)]; omega), nI_toInt (by omega)]
    have hd : d = false := by
      cases d with
      | false => rfl
      | true =>
        have : sgn true w = (w : Int) := by simp [sgn]
        omega
    subst hd
    have e2 : sgn false w = -(w : Int) := by simp [sgn]
    have e3 : w2 = w := by omega
    subst e3
    refine ⟨fun e => ?_, fun hk g hf => ?_⟩
    · have h9 := hQ k g0 (by omega) (itB_RD hO k g0 hit) (fun z => absurd z (by omega))
      unfold rAns at h9
      rw [if_neg (by omega)] at h9
      exact h9
    · obtain ⟨f1, f2, f3, f4, f5⟩ := hf
      have hR := itB_RD hO k g0 hit
      refine hQ k g (by omega) (RD_same hR f2 f3 f4 (f5 0 (by decide) (by decide) (by decide)) (f5 19 (by decide) (by decide) (by decide))) (fun _ => ?_)
      rw [f2, ← hR.2.1]
      exact f1
/-- two objects that show the same -/
def Sm (a q : jM) : Prop := vS q = vS a ∧ vQ q = vQ a ∧ q 3 = a 3 ∧ q 0 7 = a 0 7
theorem Sm_RD {d : Bool} {cnt k : Nat} {a q a2 q2 : jM} (hS : Sm a q) (hA : RD d cnt a k a2) (hQ : RD d cnt q k q2) : Sm a2 q2 := by
  obtain ⟨s1, s2, s3, s4⟩ := hS
  obtain ⟨a1, a3, a4, -, -, -⟩ := hA
  obtain ⟨q1, q3, q4, -, -, -⟩ := hQ
  rw [s1, s2, s3] at q1
  have e := mvG_det a1 q1
  exact ⟨congrArg Prod.fst e, by rw [q3, a3, s2], congrArg Prod.snd e, by rw [q4, a4, s4]⟩
/-- where the first did k steps, the second, the same, does not stop ahead of them -/
theorem RD_all {d : Bool} {cnt k j : Nat} {a q a2 q2 : jM} (hS : Sm a q) (hA : RD d cnt a k a2) (hQ : RD d cnt q j q2) (hj : j ≤ k) (hstop : j < k → ¬ okD d (vQ q) cnt (vS q2)) : j = k := by
  obtain ⟨s1, s2, s3, s4⟩ := hS
  by_cases c : j < k
  · refine absurd ?_ (hstop c)
    have q1 := hQ.1
    rw [s1, s2, s3] at q1
    rw [s2]
    have a1 := hA.1
    have h9 := mvG_ok (ok := fun p : aSV => okD d (vQ a) cnt p.1) (f := fD d (vQ a) cnt) (n := j) (w := k) (s := (vS a, a 3)) (t := (vS q2, q2 3)) (u := (vS a2, a2 3)) q1 a1 c
    exact h9
  · omega
/-- digest -/
noncomputable def dgV (cnt : Nat) (h : jM) : Int64 := dgA (fun i k => h (12 + i) k) (dgF (h 2) 240) cnt
theorem dgA_congr {a b : Nat → Nat → Int32} {d : Int64} : ∀ {n : Nat}, (∀ i, i < n → a i 0 = b i 0 ∧ a i 1 = b i 1 ∧ a i 2 = b i 2 ∧ a i 3 = b i 3) → dgA a d n = dgA b d n
  | 0, _ => rfl
  | n + 1, h => by
    have ih := dgA_congr (n := n) (fun i hi => h i (by omega)) (d := d)
    obtain ⟨a1, a2, a3, a4⟩ := h n (by omega)
    show 31 * (31 * (31 * (31 * dgA a d n + (a n 0).toInt64) + (a n 1).toInt64) + (a n 2).toInt64) + (a n 3).toInt64 = 31 * (31 * (31 * (31 * dgA b d n + (b n 0).toInt64) + (b n 1).toInt64) + (b n 2).toInt64) + (b n 3).toInt64
    rw [ih, a1, a2, a3, a4]
theorem Sm_ant {a q : jM} (h1 : vS q = vS a) (h2 : vQ q = vQ a) {i : Nat} (hi : i < 6) : q (12 + i) 0 = a (12 + i) 0 ∧ q (12 + i) 1 = a (12 + i) 1 ∧ q (12 + i) 2 = a (12 + i) 2 ∧ q (12 + i) 3 = a (12 + i) 3 := by
  have e0 : vX q 0 = vX a 0 := congrArg (fun s : aS => s.2.1) h1
  have e1 : vX q 1 = vX a 1 := congrArg (fun s : aS => s.2.2.1) h1
  have e2 : vX q 2 = vX a 2 := congrArg (fun s : aS => s.2.2.2) h1
  have e3 : vX q 3 = vX a 3 := congrArg (fun s : aQ => s.2.2.2) h2
  exact ⟨by rw [← vX_at q 0 hi, e0, vX_at a 0 hi], by rw [← vX_at q 1 hi, e1, vX_at a 1 hi], by rw [← vX_at q 2 hi, e2, vX_at a 2 hi], by rw [← vX_at q 3 hi, e3, vX_at a 3 hi]⟩
theorem dgV_eq {cnt : Nat} {a q : jM} (h1 : vS q = vS a) (h2 : vQ q = vQ a) (hc : cnt ≤ 6) : dgV cnt q = dgV cnt a := by
  unfold dgV
  have e : q 2 = a 2 := congrArg (fun s : aS => s.1) h1
  rw [e]
  exact dgA_congr (fun i hi => Sm_ant h1 h2 (by omega))
theorem digest_D {cnt B : Nat} {h : jM} {K : List jK} {Q : jPost} (hX : jX K) (hO : Ob cnt B h) (hQ : Q (some (.long (dgV cnt h))) K h) : T_X6_digest [.ref 0] K h Q := by
  show _ ∧ _
  exact ⟨rfl, hX, cnt, hO.1, hO.2.1, hQ⟩
theorem time_D {h : jM} {K : List jK} {Q : jPost} (hX : jX K) (hQ : Q (some (.int (h 0 8))) K h) : T_X6_time [.ref 0] K h Q := by
  show _ ∧ _
  exact ⟨rfl, hX, hQ⟩
theorem count_D {h : jM} {K : List jK} {w : Int32} {Q : jPost} (hX : jX K) (hQ : Q (some (.int (cCount h w))) K h) : T_X6_count [.ref 0, .int w] K h Q := by
  show _ ∧ _
  exact ⟨rfl, hX, hQ⟩
theorem visits_D {h : jM} {K : List jK} {x y : Int32} {Q : jPost} (hX : jX K) (hQ : Q (some (.int (jcb (h 3) (-10000001) x y))) K h) : T_X6_visits [.ref 0, .int x, .int y] K h Q := by
  show _ ∧ _
  exact ⟨rfl, hX, hQ⟩
/-- told, of an ant that there is: 0, 1, 2 -/
theorem told_D {cnt B : Nat} {h : jM} {K : List jK} {i w : Nat} {Q : jPost} (hX : jX K) (hO : Ob cnt B h) (hi : i < cnt) (hw : w < 3) (hQ : Q (some (.int (h (12 + i) w))) K h) : T_X6_told [.ref 0, .int (nI i), .int (nI w)] K h Q := by
  obtain ⟨o1, o2, -⟩ := hO
  have ei : (nI i).toInt = (i : Int) := nI_toInt (by omega)
  have ew : (nI w).toInt = (w : Int) := nI_toInt (by omega)
  have ec : (nI cnt).toInt = (cnt : Int) := nI_toInt (by omega)
  have e1 : (nI cnt - 1).toInt = (cnt : Int) - 1 := by
    have : (1 : Int32).toInt = 1 := rfl
    rw [ti_sub (by rw [ec, this]; omega) (by rw [ec, this]; omega), ec, this]
  have hin : 0 ≤ nI i ∧ nI i ≤ nI cnt - 1 := by
    rw [Int32.le_iff_toInt_le, Int32.le_iff_toInt_le, ei, e1]
    show (0 : Int) ≤ _ ∧ _
    omega
  show _ ∧ _
  refine ⟨rfl, hX, by rw [o2, ec]; omega, fun n => absurd (by rw [o2]; exact hin) n, fun _ => ?_⟩
  rw [nI_clamp (show i < 2147483648 by omega), ew]
  have : w = 0 ∨ w = 1 ∨ w = 2 := by omega
  rcases this with rfl | rfl | rfl
  · exact hQ
  · exact hQ
  · exact hQ
theorem jcnt_all {p : Nat → Prop} : ∀ n, (∀ i, i < n → p i) → jcnt p n = n
  | 0, _ => rfl
  | n + 1, h => by rw [jcnt_pos (h n (by omega)), jcnt_all n (fun i hi => h i (by omega))]
theorem count1_0 {h : jM} (hz : ∀ i, i < 57600 → h 2 i = 0) : cCount h 1 = 0 := by
  show 57600 - nI (jcnt (fun k => h 2 k = 0) 57600) = 0
  rw [jcnt_all 57600 hz]
  rfl
theorem count0_D (h : jM) : cCount h 0 = h 0 7 := rfl
theorem count3_eq {a q : jM} (e : q 3 = a 3) : cCount q 3 = cCount a 3 := by
  show 57600 - nI (jcnt (fun k => q 3 k = 0) 57600) = 57600 - nI (jcnt (fun k => a 3 k = 0) 57600)
  rw [e]
