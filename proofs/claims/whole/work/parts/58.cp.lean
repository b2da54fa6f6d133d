/-! ===== steps on both sides: visits, V, meetings ===== -/
/-- one less at a place -/
def vdec (f : Nat → Int32) (p : Nat) : Nat → Int32 := upd f p (f p - 1)
theorem vdec_comm (f : Nat → Int32) (p q : Nat) : vdec (vdec f p) q = vdec (vdec f q) p := by
  funext i
  unfold vdec
  by_cases e : q = p
  · subst e; rfl
  · by_cases e1 : i = p
    · subst e1
      rw [upd_n (fun z => e z.symm), upd_s, upd_s, upd_n (fun z => e z.symm)]
    · by_cases e2 : i = q
      · subst e2
        rw [upd_s, upd_n e1, upd_n e1, upd_s]
      · rw [upd_n e2, upd_n e1, upd_n e1, upd_n e2]
theorem vA_dec (P : Nat → Nat) (f : Nat → Int32) (p : Nat) : ∀ n, vA P (vdec f p) n = vdec (vA P f n) p
  | 0 => rfl
  | n + 1 => by
    show vdec (vA P (vdec f p) n) (P n) = vdec (vdec (vA P f n) (P n)) p
    rw [vA_dec P f p n, vdec_comm]
theorem vLA (P : Nat → Nat) (v : Nat → Int32) (m : Nat) : ∀ k, k ≤ m → vA P (vL P v m k) (m - k) = vA P v m
  | 0, _ => rfl
  | k + 1, hk => by
    have ih := vLA P v m k (by omega)
    obtain ⟨n, hn⟩ : ∃ n, m - k = n + 1 := ⟨m - k - 1, by omega⟩
    have e1 : m - (k + 1) = n := by omega
    have e2 : m - 1 - k = n := by omega
    rw [e1]
    show vA P (vdec (vL P v m k) (P (m - 1 - k))) n = _
    rw [e2, vA_dec, ← ih, hn]
    rfl
theorem vL_A (P : Nat → Nat) (v : Nat → Int32) (m : Nat) : vL P v m m = vA P v m := by
  have := vLA P v m m (Nat.le_refl _)
  rw [Nat.sub_self] at this
  exact this
/-! V -/
theorem jcnt_up {f : Nat → Int32} {p : Nat} (hp : f p = 0) : ∀ n, jcnt (fun k => ¬ upd f p 1 k = 0) n = jcnt (fun k => ¬ f k = 0) n + (if p < n then 1 else 0)
  | 0 => by rw [if_neg (by omega)]; rfl
  | n + 1 => by
    have ih := jcnt_up hp n
    by_cases e : n = p
    · subst e
      rw [jcnt_pos (p := fun k => ¬ upd f n 1 k = 0) (by rw [upd_s]; decide), jcnt_neg (p := fun k => ¬ f k = 0) (fun z => z hp), ih, if_neg (by omega), if_pos (by omega)]
    · by_cases z : f n = 0
      · rw [jcnt_neg (p := fun k => ¬ upd f p 1 k = 0) (by rw [upd_n e]; exact fun y => y z), jcnt_neg (p := fun k => ¬ f k = 0) (fun y => y z), ih]
        by_cases q : p < n
        · rw [if_pos q, if_pos (by omega)]
        · rw [if_neg q, if_neg (by omega)]
      · rw [jcnt_pos (p := fun k => ¬ upd f p 1 k = 0) (by rw [upd_n e]; exact z), jcnt_pos (p := fun k => ¬ f k = 0) z, ih]
        by_cases q : p < n
        · rw [if_pos q, if_pos (by omega)]
        · rw [if_neg q, if_neg (by omega)]
theorem mVs_51 (P : Nat → Nat) (g : jM) (k : Nat) : mVs P g (k + 1) 51 = upd (mVs P g k 51) (P k) 1 := by
  rw [mVs_s, up2_s, up2_n (by decide)]
theorem trod_ok {X g : jM} {P : Nat → Nat} {cnt : Nat} (ht : ¬ X 24 0 = 0) (hp : ∀ b, b < cnt → (X 18 b).toNatClampNeg = P b ∧ P b < 57600) (h0 : ∀ Q, Q < 57600 → (g 51 Q = 0 ↔ X 27 Q = 0)) (hc : X 24 3 = nI (jcnt (fun k => ¬ X 27 k = 0) 57600)) : ∀ i, i ≤ cnt → (∀ Q, Q < 57600 → (mVs P g i 51 Q = 0 ↔ jtr X i 27 Q = 0)) ∧ jtr X i 24 3 = nI (jcnt (fun k => ¬ jtr X i 27 k = 0) 57600)
  | 0, _ => ⟨h0, hc⟩
  | i + 1, hi => by
    obtain ⟨a, b⟩ := trod_ok ht hp h0 hc i (by omega)
    obtain ⟨p1, p2⟩ := hp i (by omega)
    by_cases z : jtr X i 27 (X 18 i).toNatClampNeg = 0
    · have e := jtr_s1 ht z
      rw [p1] at z e
      have e27 : jtr X (i + 1) 27 = upd (jtr X i 27) (P i) 1 := by rw [e, up2_n (by decide), up2_s]
      have e24 : jtr X (i + 1) 24 3 = jtr X i 24 3 + 1 := by rw [e, up2_s, upd_s]
      rw [e27, e24, mVs_51]
      refine ⟨fun Q hQ => ?_, ?_⟩
      · by_cases q : Q = P i
        · subst q
          rw [upd_s, upd_s]
        · rw [upd_n q, upd_n q]
          exact a Q hQ
      · rw [b, jcnt_up z, if_pos p2, nI_1]
    · have e := jtr_s0 ht z
      rw [p1] at z
      rw [e, mVs_51]
      refine ⟨fun Q hQ => ?_, b⟩
      by_cases q : Q = P i
      · subst q
        rw [upd_s]
        exact ⟨fun y => absurd y (by decide), fun y => absurd y z⟩
      · rw [upd_n q]
        exact a Q hQ
/-! meetings -/
def hasb (v : Int32) (j : Nat) : Prop := ¬ v &&& jbit j = 0
theorem i32_aod (x y z : Int32) : (x ||| y) &&& z = (x &&& z) ||| (y &&& z) := by
  apply Int32.toBitVec_inj.mp
  show (x.toBitVec ||| y.toBitVec) &&& z.toBitVec = (x.toBitVec &&& z.toBitVec) ||| (y.toBitVec &&& z.toBitVec)
  exact BitVec.and_or_distrib_right
theorem hasb_or (a b : Int32) (j : Nat) : hasb (a ||| b) j ↔ hasb a j ∨ hasb b j := by
  unfold hasb
  rw [i32_aod, Int32.or_eq_zero_iff]
  by_cases q : a &&& jbit j = 0
  · exact ⟨fun z => Or.inr (fun y => z ⟨q, y⟩), fun z y => z.elim (fun w => w q) (fun w => w y.2)⟩
  · exact ⟨fun _ => Or.inl q, fun _ y => q y.1⟩
theorem hasb_0 (j : Nat) : ¬ hasb 0 j := by
  unfold hasb
  intro z
  apply z
  apply Int32.toBitVec_inj.mp
  show 0#32 &&& (jbit j).toBitVec = 0#32
  exact BitVec.zero_and
theorem jbit_all : ∀ l, l < 6 → ∀ j, j < 6 → (jbit l &&& jbit j = 0 ↔ ¬ l = j) := by decide
theorem hasb_bit {l j : Nat} (hl : l < 6) (hj : j < 6) : hasb (jbit l) j ↔ l = j := by
  unfold hasb
  rw [jbit_all l hl j hj]
  exact Classical.not_not
theorem hasb_who {X Y : Nat → Int32} {i j : Nat} (hj : j < 6) : ∀ n, n ≤ 6 → (hasb (jwho X Y i n) j ↔ j < n ∧ (X j = X i ∧ Y j = Y i))
  | 0, _ => ⟨fun z => absurd z (hasb_0 j), fun z => absurd z.1 (by omega)⟩
  | n + 1, hn => by
    have ih := hasb_who (X := X) (Y := Y) (i := i) hj n (by omega)
    by_cases s : X n = X i ∧ Y n = Y i
    · rw [jwho_s s, hasb_or, ih, hasb_bit (by omega) hj]
      constructor
      · rintro (z | z)
        · exact ⟨by omega, z.2⟩
        · subst z; exact ⟨by omega, s⟩
      · rintro ⟨z1, z2⟩
        by_cases e : j = n
        · exact Or.inr e.symm
        · exact Or.inl ⟨by omega, z2⟩
    · rw [jwho_n s, ih]
      constructor
      · rintro ⟨z1, z2⟩
        exact ⟨by omega, z2⟩
      · rintro ⟨z1, z2⟩
        by_cases e : j = n
        · subst e; exact absurd z2 s
        · exact ⟨by omega, z2⟩
/-- another ant on the cell: more bits than one's own -/
theorem who_ne {X Y : Nat → Int32} {i q cnt : Nat} (hc : cnt ≤ 6) (hi : i < cnt) (hq : q < cnt) (hne : ¬ q = i) (s : X q = X i ∧ Y q = Y i) : ¬ jwho X Y i cnt = jbit i := by
  intro e
  have h1 := (hasb_who (X := X) (Y := Y) (i := i) (show q < 6 by omega) cnt hc).mpr ⟨hq, s⟩
  rw [e] at h1
  exact hne ((hasb_bit (by omega) (by omega)).mp h1).symm
theorem meet_ok {X Y : jM} {cnt : Nat} (hc : cnt ≤ 6) (ex : cut6 (Y 42) = vX X 0) (ey : cut6 (Y 43) = vX X 1) (et : Y 37 4 = X 0 8) (e14 : Y 37 14 = X 19 0) (e47 : Y 47 = X 20) (e48 : Y 48 = X 21) (e49 : Y 49 = X 22) (e50 : Y 50 = X 23) : ∀ i, i ≤ cnt →
    (∀ j, j < cnt → (hasb (cNt X cnt i).1 j ↔ ∃ q, q < i ∧ (vX X 0 q = vX X 0 j ∧ vX X 1 q = vX X 1 j) ∧ ¬ jwho (vX X 0) (vX X 1) q cnt = jbit q)) ∧
    (mMt Y cnt i 37 14 = (cNt X cnt i).2 19 0 ∧ mMt Y cnt i 47 = (cNt X cnt i).2 20 ∧ mMt Y cnt i 48 = (cNt X cnt i).2 21 ∧ mMt Y cnt i 49 = (cNt X cnt i).2 22 ∧ mMt Y cnt i 50 = (cNt X cnt i).2 23)
  | 0, _ => ⟨fun j _ => ⟨fun z => absurd z (hasb_0 j), fun ⟨q, z, _⟩ => absurd z (by omega)⟩, e14, e47, e48, e49, e50⟩
  | i + 1, hi => by
    obtain ⟨a, b14, b47, b48, b49, b50⟩ := meet_ok hc ex ey et e14 e47 e48 e49 e50 i (by omega)
    have hi2 : i < cnt := by omega
    by_cases w : jwho (vX X 0) (vX X 1) i cnt = jbit i
    · have c1 := cNt_n (h := X) (cnt := cnt) (i := i) (fun z => z.2 w)
      have c2 := mMt_n (h := Y) (cnt := cnt) (i := i) (by rw [ex, ey]; exact fun z => z.2 w)
      rw [c1, c2]
      refine ⟨fun j hj => ?_, b14, b47, b48, b49, b50⟩
      rw [a j hj]
      constructor
      · rintro ⟨q, z1, z2⟩
        exact ⟨q, by omega, z2⟩
      · rintro ⟨q, z1, z2, z3⟩
        by_cases e : q = i
        · subst e; exact absurd w z3
        · exact ⟨q, by omega, z2, z3⟩
    · by_cases s : (cNt X cnt i).1 &&& jbit i = 0
      · have hl : ∀ q, q < i → ¬ (vX X 0 q = vX X 0 i ∧ vX X 1 q = vX X 1 i) := fun q hq z => by
          have := (a i hi2).mpr ⟨q, hq, z, who_ne hc (by omega) hi2 (by omega) ⟨z.1.symm, z.2.symm⟩⟩
          exact this s
        have c1 := cNt_s (h := X) (cnt := cnt) (i := i) ⟨s, w⟩
        have c2 := mMt_s (h := Y) (cnt := cnt) (i := i) (by rw [ex, ey]; exact ⟨hl, w⟩)
        rw [ex, ey, et] at c2
        rw [c1, c2]
        refine ⟨fun j hj => ?_, ?_⟩
        · show hasb (_ ||| _) j ↔ _
          rw [hasb_or, a j hj, hasb_who (by omega) cnt hc]
          constructor
          · rintro (⟨q, z1, z2⟩ | ⟨z1, z2⟩)
            · exact ⟨q, by omega, z2⟩
            · exact ⟨i, by omega, ⟨z2.1.symm, z2.2.symm⟩, w⟩
          · rintro ⟨q, z1, z2, z3⟩
            by_cases e : q = i
            · subst e; exact Or.inr ⟨hj, z2.1.symm, z2.2.symm⟩
            · exact Or.inl ⟨q, by omega, z2, z3⟩
        · show mKeep (mMt Y cnt i) _ _ _ _ 37 14 = jkeep (cNt X cnt i).2 _ _ _ _ 19 0 ∧ mKeep (mMt Y cnt i) _ _ _ _ 47 = jkeep (cNt X cnt i).2 _ _ _ _ 20 ∧ mKeep (mMt Y cnt i) _ _ _ _ 48 = jkeep (cNt X cnt i).2 _ _ _ _ 21 ∧ mKeep (mMt Y cnt i) _ _ _ _ 49 = jkeep (cNt X cnt i).2 _ _ _ _ 22 ∧ mKeep (mMt Y cnt i) _ _ _ _ 50 = jkeep (cNt X cnt i).2 _ _ _ _ 23
          rw [mKeep_t, jkeep_t, b14]
          refine ⟨rfl, ?_⟩
          unfold mKeep jkeep
          rw [b14]
          by_cases q : (cNt X cnt i).2 19 0 < 60
          · rw [if_pos q, if_pos q]
            simp only [up2_s, up2_n, upr_s, upr_n, upd_s, upd_n, ev_vS, ev_vSr, ev_vQ, ev_vQr, ev_mS, ev_mSr, ev_mQ, ev_mQr, ev_mQ7, ev_vL, ev_vN, ev_vI, ev_vLr, ev_vNr, ev_vIr, Nat.reduceEqDiff, Nat.reduceLeDiff, Nat.reduceLT, not_false_eq_true, and_false, false_and, and_self, and_true, true_and, reduceCtorEq, Nat.zero_ne_one, Nat.one_ne_zero, not_true_eq_false]
            rw [b47, b48, b49, b50]
            exact ⟨rfl, rfl, rfl, rfl⟩
          · rw [if_neg q, if_neg q]
            simp only [up2_s, up2_n, upr_s, upr_n, upd_s, upd_n, ev_vS, ev_vSr, ev_vQ, ev_vQr, ev_mS, ev_mSr, ev_mQ, ev_mQr, ev_mQ7, ev_vL, ev_vN, ev_vI, ev_vLr, ev_vNr, ev_vIr, Nat.reduceEqDiff, Nat.reduceLeDiff, Nat.reduceLT, not_false_eq_true, and_false, false_and, and_self, and_true, true_and, reduceCtorEq, Nat.zero_ne_one, Nat.one_ne_zero, not_true_eq_false]
            exact ⟨b47, b48, b49, b50⟩
      · have hs : ∃ q, q < i ∧ (vX X 0 q = vX X 0 i ∧ vX X 1 q = vX X 1 i) ∧ ¬ jwho (vX X 0) (vX X 1) q cnt = jbit q := (a i hi2).mp s
        obtain ⟨q0, y1, y2, y3⟩ := hs
        have c1 := cNt_n (h := X) (cnt := cnt) (i := i) (fun z => s z.1)
        have c2 := mMt_n (h := Y) (cnt := cnt) (i := i) (by rw [ex, ey]; exact fun z => z.1 q0 y1 y2)
        rw [c1, c2]
        refine ⟨fun j hj => ?_, b14, b47, b48, b49, b50⟩
        rw [a j hj]
        constructor
        · rintro ⟨q, z1, z2⟩
          exact ⟨q, by omega, z2⟩
        · rintro ⟨q, z1, z2, z3⟩
          by_cases e : q = i
          · subst e
            exact ⟨q0, y1, ⟨y2.1.trans z2.1, y2.2.trans z2.2⟩, y3⟩
          · exact ⟨q, by omega, z2, z3⟩
