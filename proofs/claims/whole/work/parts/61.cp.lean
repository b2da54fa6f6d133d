/-! ===== the beginning: both objects new ===== -/
def zR : Nat → Int32 := fun _ => 0
def zM : jM := fun _ => zR
theorem zM_at (a : Nat) : zM a = zR := rfl
theorem upr_z {h : jM} {c : Nat} (hc : h c = zR) : upr h c (fun _ => 0) = h := by
  have : (fun _ => (0 : Int32)) = h c := hc.symm
  rw [this, upr_self]
theorem up2_z {h : jM} {c k : Nat} (hc : h c = zR) : up2 h c k 0 = h := by
  unfold up2
  have : upd (h c) k 0 = h c := by
    funext i
    rw [hc]
    unfold upd zR
    split <;> rfl
  rw [this, upr_self]
theorem jmZ_z {h : jM} (h5 : h 5 = zR) (h6 : h 6 = zR) (h7 : h 7 = zR) (h8 : h 8 = zR) (h9 : h 9 = zR) : jmZ h 5 = h := by
  funext a
  unfold jmZ
  by_cases q : 5 ≤ a ∧ a < 5 + 5
  · rw [if_pos q]
    have : a = 5 ∨ a = 6 ∨ a = 7 ∨ a = 8 ∨ a = 9 := by omega
    rcases this with rfl | rfl | rfl | rfl | rfl
    · exact h5.symm
    · exact h6.symm
    · exact h7.symm
    · exact h8.symm
    · exact h9.symm
  · rw [if_neg q]
/-- the memory of a new class's object, but its rules -/
def bM : jM := up2 (up2 (up2 (up2 (up2 zM 1 1 2) 29 0 (-1)) 31 0 (-1)) 33 0 (-1)) 35 0 (-1)
theorem bM_z {a : Nat} (h1 : ¬ a = 1) (h2 : ¬ (29 ≤ a ∧ a < 37)) : bM a = zR := by
  unfold bM
  rw [up2_n (by omega), up2_n (by omega), up2_n (by omega), up2_n (by omega), up2_n h1]
  rfl
theorem bM_1 : bM 1 = upd zR 1 2 := by
  unfold bM
  rw [up2_n (by decide), up2_n (by decide), up2_n (by decide), up2_n (by decide), up2_s]
  rfl
set_option maxRecDepth 100000 in
theorem mNewX_z : mNewX zM = bM := by
  unfold mNewX bM
  rw [show upr (zM) 1 (fun _ => 0) = zM from upr_z rfl]
  rw [show up2 (zM) 1 0 0 = zM from up2_z rfl]
  rw [show upr (up2 zM 1 1 2) 2 (fun _ => 0) = up2 zM 1 1 2 from upr_z rfl]
  rw [show upr (up2 zM 1 1 2) 3 (fun _ => 0) = up2 zM 1 1 2 from upr_z rfl]
  rw [show upr (up2 zM 1 1 2) 4 (fun _ => 0) = up2 zM 1 1 2 from upr_z rfl]
  rw [show jmZ (up2 zM 1 1 2) 5 = up2 zM 1 1 2 from jmZ_z rfl rfl rfl rfl rfl]
  rw [show upr (up2 zM 1 1 2) 10 (fun _ => 0) = up2 zM 1 1 2 from upr_z rfl]
  rw [show upr (up2 zM 1 1 2) 11 (fun _ => 0) = up2 zM 1 1 2 from upr_z rfl]
  rw [show upr (up2 zM 1 1 2) 12 (fun _ => 0) = up2 zM 1 1 2 from upr_z rfl]
  rw [show upr (up2 zM 1 1 2) 13 (fun _ => 0) = up2 zM 1 1 2 from upr_z rfl]
  rw [show upr (up2 zM 1 1 2) 14 (fun _ => 0) = up2 zM 1 1 2 from upr_z rfl]
  rw [show upr (up2 zM 1 1 2) 15 (fun _ => 0) = up2 zM 1 1 2 from upr_z rfl]
  rw [show upr (up2 zM 1 1 2) 16 (fun _ => 0) = up2 zM 1 1 2 from upr_z rfl]
  rw [show upr (up2 zM 1 1 2) 17 (fun _ => 0) = up2 zM 1 1 2 from upr_z rfl]
  rw [show upr (up2 zM 1 1 2) 18 (fun _ => 0) = up2 zM 1 1 2 from upr_z rfl]
  rw [show upr (up2 zM 1 1 2) 19 (fun _ => 0) = up2 zM 1 1 2 from upr_z rfl]
  rw [show upr (up2 zM 1 1 2) 20 (fun _ => 0) = up2 zM 1 1 2 from upr_z rfl]
  rw [show upr (up2 zM 1 1 2) 21 (fun _ => 0) = up2 zM 1 1 2 from upr_z rfl]
  rw [show upr (up2 zM 1 1 2) 22 (fun _ => 0) = up2 zM 1 1 2 from upr_z rfl]
  rw [show upr (up2 zM 1 1 2) 23 (fun _ => 0) = up2 zM 1 1 2 from upr_z rfl]
  rw [show upr (up2 zM 1 1 2) 24 (fun _ => 0) = up2 zM 1 1 2 from upr_z rfl]
  rw [show upr (up2 zM 1 1 2) 25 (fun _ => 0) = up2 zM 1 1 2 from upr_z rfl]
  rw [show upr (up2 zM 1 1 2) 26 (fun _ => 0) = up2 zM 1 1 2 from upr_z rfl]
  rw [show upr (up2 zM 1 1 2) 27 (fun _ => 0) = up2 zM 1 1 2 from upr_z rfl]
  rw [show upr (up2 zM 1 1 2) 28 (fun _ => 0) = up2 zM 1 1 2 from upr_z rfl]
  rw [show upr (up2 zM 1 1 2) 29 (fun _ => 0) = up2 zM 1 1 2 from upr_z rfl]
  rw [show upr (up2 (up2 zM 1 1 2) 29 0 (-1)) 30 (fun _ => 0) = up2 (up2 zM 1 1 2) 29 0 (-1) from upr_z rfl]
  rw [show upr (up2 (up2 zM 1 1 2) 29 0 (-1)) 31 (fun _ => 0) = up2 (up2 zM 1 1 2) 29 0 (-1) from upr_z rfl]
  rw [show upr (up2 (up2 (up2 zM 1 1 2) 29 0 (-1)) 31 0 (-1)) 32 (fun _ => 0) = up2 (up2 (up2 zM 1 1 2) 29 0 (-1)) 31 0 (-1) from upr_z rfl]
  rw [show upr (up2 (up2 (up2 zM 1 1 2) 29 0 (-1)) 31 0 (-1)) 33 (fun _ => 0) = up2 (up2 (up2 zM 1 1 2) 29 0 (-1)) 31 0 (-1) from upr_z rfl]
  rw [show upr (up2 (up2 (up2 (up2 zM 1 1 2) 29 0 (-1)) 31 0 (-1)) 33 0 (-1)) 34 (fun _ => 0) = up2 (up2 (up2 (up2 zM 1 1 2) 29 0 (-1)) 31 0 (-1)) 33 0 (-1) from upr_z rfl]
  rw [show upr (up2 (up2 (up2 (up2 zM 1 1 2) 29 0 (-1)) 31 0 (-1)) 33 0 (-1)) 35 (fun _ => 0) = up2 (up2 (up2 (up2 zM 1 1 2) 29 0 (-1)) 31 0 (-1)) 33 0 (-1) from upr_z rfl]
  rw [show upr (up2 (up2 (up2 (up2 (up2 zM 1 1 2) 29 0 (-1)) 31 0 (-1)) 33 0 (-1)) 35 0 (-1)) 36 (fun _ => 0) = up2 (up2 (up2 (up2 (up2 zM 1 1 2) 29 0 (-1)) 31 0 (-1)) 33 0 (-1)) 35 0 (-1) from upr_z rfl]
def jM0 : jM := jrst bM (2 : Int32).toInt.toNat (jdirs bM) 4 0
theorem jM0_o {a : Nat} (ha : ¬ (6 ≤ a ∧ a < 10)) : jM0 a = bM a := jrst_o ha
set_option maxRecDepth 100000 in
theorem mNewM_z : mNewM jM0 = jM0 := by
  have o : ∀ a, ¬ a < 38 → jM0 a = zR := fun a ha => by rw [jM0_o (by omega), bM_z (by omega) (by omega)]
  unfold mNewM
  have e : ∀ a, ¬ a < 38 → upr jM0 a (fun _ => 0) = jM0 := fun a ha => upr_z (o a ha)
  rw [e 38 (by decide)]
  rw [e 39 (by decide)]
  rw [e 40 (by decide)]
  rw [e 41 (by decide)]
  rw [e 42 (by decide)]
  rw [e 43 (by decide)]
  rw [e 44 (by decide)]
  rw [e 45 (by decide)]
  rw [e 46 (by decide)]
  rw [e 47 (by decide)]
  rw [e 48 (by decide)]
  rw [e 49 (by decide)]
  rw [e 50 (by decide)]
  rw [e 51 (by decide)]
  rw [e 52 (by decide)]
  rw [e 53 (by decide)]
  rw [e 54 (by decide)]
  rw [e 55 (by decide)]
  rw [e 56 (by decide)]
def hM0 : jM := up2 (up2 (up2 (up2 (mFloor jM0 0 2) 53 0 (-1)) 53 1 (-1)) 53 2 (-1)) 53 3 (-1)
theorem start_mem : (up2 (up2 (up2 (up2 (mFloor (mNewM (upr (jrst (mNewX (upr zM 0 (fun _ => 0))) (2 : Int32).toInt.toNat (jdirs (mNewX (upr zM 0 (fun _ => 0)))) 4 0) 37 (fun _ => 0))) 0 2) 53 0 (-1)) 53 1 (-1)) 53 2 (-1)) 53 3 (-1)) = hM0 := by
  rw [upr_z (h := zM) (c := 0) rfl, mNewX_z]
  show up2 (up2 (up2 (up2 (mFloor (mNewM (upr jM0 37 (fun _ => 0))) 0 2) 53 0 (-1)) 53 1 (-1)) 53 2 (-1)) 53 3 (-1) = hM0
  rw [upr_z (by rw [jM0_o (by decide), bM_z (by decide) (by decide)]), mNewM_z]
  rfl
theorem jfill_z (N : Nat) : jfill N 0 zR = zR := by
  funext i
  unfold jfill zR
  split <;> rfl
theorem CP_start : CP 0 hM0 := by
  obtain ⟨g2, hg2⟩ : ∃ g2, g2 = upr (upr (up2 (up2 jM0 37 0 0) 37 1 2) 38 (jfill 57600 0 (up2 (up2 jM0 37 0 0) 37 1 2 38))) 39 (jfill 57600 0 (up2 (up2 jM0 37 0 0) 37 1 2 39)) := ⟨_, rfl⟩
  obtain ⟨G, hG⟩ : ∃ G, G = mFloor jM0 0 2 := ⟨_, rfl⟩
  have hG2 : G = up2 (up2 (up2 (up2 (mRst g2 4 0) 37 8 0) 37 4 0) 37 14 0) 37 19 0 := by rw [hG, hg2]; rfl
  have hH : hM0 = up2 (up2 (up2 (up2 G 53 0 (-1)) 53 1 (-1)) 53 2 (-1)) 53 3 (-1) := by rw [hG]; rfl
  have d1 : ∀ a, ¬ a = 37 → ¬ a = 38 → ¬ a = 39 → ¬ a = 40 → G a = jM0 a := fun a a1 a2 a3 a4 => by rw [hG2, up2_n a1, up2_n a1, up2_n a1, up2_n a1, mRst_o _ _ _ a4, hg2, upr_n a3, upr_n a2, up2_n a1, up2_n a1]
  have g237 : g2 37 = upd (upd (jM0 37) 0 0) 1 2 := by rw [hg2, upr_n (by decide), upr_n (by decide), up2_s, up2_s]
  have z37 : jM0 37 = zR := by rw [jM0_o (by decide), bM_z (by decide) (by decide)]
  have d37 : G 37 = upd (upd (upd (upd (upd (upd zR 0 0) 1 2) 8 0) 4 0) 14 0) 19 0 := by rw [hG2, up2_s, up2_s, up2_s, up2_s, mRst_o _ _ _ (by decide), g237, z37]
  have d38 : G 38 = zR := by rw [hG2, up2_n (by decide), up2_n (by decide), up2_n (by decide), up2_n (by decide), mRst_o _ _ _ (by decide), hg2, upr_n (by decide), upr_s, up2_n (by decide), up2_n (by decide), jM0_o (by decide), bM_z (by decide) (by decide), jfill_z]
  have d39 : G 39 = zR := by rw [hG2, up2_n (by decide), up2_n (by decide), up2_n (by decide), up2_n (by decide), mRst_o _ _ _ (by decide), hg2, upr_s, up2_n (by decide), up2_n (by decide), jM0_o (by decide), bM_z (by decide) (by decide), jfill_z]
  have d40 : ∀ i, i < 48 → G 40 i = if i % 2 = 0 then 1 else jdM g2 - 1 := fun i hi => by
    rw [hG2, up2_n (by decide), up2_n (by decide), up2_n (by decide), up2_n (by decide)]
    unfold mRst
    rw [if_pos ⟨rfl, by omega⟩]
  have hd : jdirs bM = 4 := by
    unfold jdirs
    rw [bM_1]
    rfl
  have hdM : jdM g2 = 4 := by
    unfold jdM
    rw [g237]
    rfl
  have h1 : ∀ a, ¬ a = 53 → hM0 a = G a := fun a ha => by rw [hH, up2_n ha, up2_n ha, up2_n ha, up2_n ha]
  have z : ∀ a, (¬ a = 1 ∧ ¬ (6 ≤ a ∧ a < 10) ∧ ¬ (29 ≤ a ∧ a < 37) ∧ ¬ a = 37 ∧ ¬ a = 40 ∧ ¬ a = 53) → hM0 a = zR := fun a q => by
    rw [h1 a q.2.2.2.2.2]
    by_cases e8 : a = 38
    · subst e8; exact d38
    · by_cases e9 : a = 39
      · subst e9; exact d39
      · rw [d1 a q.2.2.2.1 e8 e9 q.2.2.2.2.1, jM0_o q.2.1, bM_z q.1 q.2.2.1]
  have H1 : hM0 1 = upd zR 1 2 := by rw [h1 1 (by decide), d1 1 (by decide) (by decide) (by decide) (by decide), jM0_o (by decide), bM_1]
  have H37 : hM0 37 = upd (upd (upd (upd (upd (upd zR 0 0) 1 2) 8 0) 4 0) 14 0) 19 0 := by rw [h1 37 (by decide), d37]
  have h37 : ∀ i, ¬ i = 1 → hM0 37 i = 0 := fun i hi => by
    rw [H37]
    unfold upd zR
    simp only [hi, if_false]
    repeat (first | rfl | split)
  have H53 : ∀ i, i < 4 → hM0 53 i = -1 := fun i hi => by
    have : i = 0 ∨ i = 1 ∨ i = 2 ∨ i = 3 := by omega
    rw [hH, up2_s, up2_s, up2_s, up2_s]
    rcases this with rfl | rfl | rfl | rfl <;> rfl
  have Hs : ∀ i, i < 4 → hM0 (29 + 2 * i) 0 = -1 ∧ hM0 (29 + 2 * i) 1 = 0 ∧ hM0 (30 + 2 * i) = zR := fun i hi => by
    have : i = 0 ∨ i = 1 ∨ i = 2 ∨ i = 3 := by omega
    have e : ∀ a, 29 ≤ a → a < 37 → hM0 a = bM a := fun a q1 q2 => by rw [h1 a (by omega), d1 a (by omega) (by omega) (by omega) (by omega), jM0_o (by omega)]
    rw [e _ (by omega) (by omega), e _ (by omega) (by omega)]
    rcases this with rfl | rfl | rfl | rfl <;> exact ⟨rfl, rfl, rfl⟩
  have vz : ∀ k, vX hM0 k = zR := fun k => by
    funext i
    unfold vX
    by_cases hi : i < 6
    · rw [if_pos hi, z (12 + i) (by omega)]; rfl
    · rw [if_neg hi]; rfl
  have cz : cut6 zR = zR := by
    funext i
    unfold cut6 zR
    split <;> rfl
  have eS : mS hM0 = vS hM0 := by
    unfold mS vS
    rw [z 38 (by decide), z 42 (by decide), z 43 (by decide), z 44 (by decide), z 2 (by decide), vz, vz, vz, cz]
  have tu : ∀ r q : Nat, r < 4 → q < 2 → hM0 40 (12 * r + q) = hM0 (6 + r) q ∧ 0 ≤ (hM0 (6 + r) q).toInt ∧ (hM0 (6 + r) q).toInt < 4 := fun r q hr hq => by
    obtain ⟨z1, z2, z3⟩ := jRL_ok q (jdirs_46 bM)
    have e : hM0 (6 + r) q = jtof (jRL q) (jdirs bM) := by
      rw [h1 (6 + r) (by omega), d1 (6 + r) (by omega) (by omega) (by omega) (by omega)]
      exact jrst_at hr hq
    rw [e, h1 40 (by decide), d40 _ (by omega), hdM, z1]
    rw [z1] at z2 z3
    rw [hd] at z2 z3 ⊢
    have : (12 * r + q) % 2 = q % 2 := by omega
    rw [this]
    exact ⟨rfl, z2, z3⟩
  have e11 : hM0 1 1 = 2 := by rw [H1]; rfl
  have e10 : hM0 1 0 = 0 := by rw [H1]; rfl
  have m1 : hM0 37 1 = 2 := by rw [H37]; rfl
  have i2 : ((2 : Int32).toInt) = 2 := rfl
  have eQ : mQ hM0 = vQ hM0 := by
    unfold mQ vQ
    rw [h37 0 (by decide), m1, e10, e11, z 45 (by decide), vz, cz, i2]
    have : (fun r c : Nat => if r < 4 ∧ (c : Int) < 2 then hM0 40 (12 * r + c) else 0) = (fun r c : Nat => if r < 4 ∧ (c : Int) < 2 then hM0 (6 + r) c else 0) := by
      funext r c
      by_cases q : r < 4 ∧ (c : Int) < 2
      · rw [if_pos q, if_pos q, (tu r c q.1 (by omega)).1]
      · rw [if_neg q, if_neg q]
    rw [this]
  have hv : aVal (vQ hM0) (vS hM0) 0 := by
    have q1 : (vQ hM0).1 = 0 := e10
    have q2 : (vQ hM0).2.1 = 2 := e11
    refine ⟨⟨by rw [q2]; decide, fun i hi => ?_, fun r q h1 h2 => ?_⟩, fun i hi => absurd hi (by omega)⟩
    · rw [q2]
      show 0 ≤ (hM0 2 i).toInt ∧ (hM0 2 i).toInt < _
      rw [z 2 (by decide)]
      show 0 ≤ (0 : Int32).toInt ∧ (0 : Int32).toInt < _
      exact ⟨by decide, by decide⟩
    · rw [q2, i2] at h2
      have : (vQ hM0).2.2.1 r q = hM0 (6 + r) q := if_pos ⟨h1, by rw [e11, i2]; exact h2⟩
      rw [this, q1]
      exact (tu r q h1 (by omega)).2
  refine ⟨⟨eS, eQ, by rw [z 39 (by decide), z 3 (by decide)]⟩, ⟨0, by omega, by rw [z 0 (by decide)]; rfl, h37 8 (by decide), hv⟩, Or.inl e10, by rw [h37 4 (by decide), z 0 (by decide)]; rfl, ?_, ?_, ?_, ?_, ?_⟩
  · rw [z 4 (by decide), z 10 (by decide), h37 7 (by decide), z 41 (by decide)]
    exact ⟨rfl, ⟨by decide, by decide⟩, rfl⟩
  · rw [z 19 (by decide), z 20 (by decide), z 21 (by decide), z 22 (by decide), z 23 (by decide), h37 14 (by decide), z 47 (by decide), z 48 (by decide), z 49 (by decide), z 50 (by decide)]
    exact ⟨rfl, ⟨by decide, by decide⟩, rfl, rfl, rfl, rfl⟩
  · rw [z 24 (by decide), z 25 (by decide), z 26 (by decide), z 27 (by decide), h37 19 (by decide), h37 20 (by decide), h37 21 (by decide), h37 24 (by decide), h37 25 (by decide), h37 26 (by decide), h37 27 (by decide), h37 28 (by decide), z 51 (by decide), z 52 (by decide)]
    exact ⟨rfl, ⟨fun _ => ⟨rfl, rfl⟩, fun _ => rfl⟩, rfl, ⟨rfl, rfl, rfl, rfl⟩, rfl, ⟨⟨by decide, by decide⟩, by decide, by decide⟩, fun q => absurd rfl q⟩
  · intro i hi
    unfold vL2 vN2 vI2
    rw [if_pos hi, if_pos hi, if_pos hi, H53 i hi, (Hs i hi).1, (Hs i hi).2.1, (Hs i hi).2.2, z 54 (by decide), z 55 (by decide)]
    have w : (0 ≤ (zR i).toInt ∧ (zR i).toInt ≤ 60) := by show 0 ≤ (0 : Int32).toInt ∧ (0 : Int32).toInt ≤ 60; decide
    exact ⟨rfl, Or.inl rfl, ⟨by decide, by decide⟩, w, fun q => absurd rfl q⟩
  · rw [z 12 (by decide)]
    exact ⟨⟨by decide, by decide⟩, by decide, by decide⟩
