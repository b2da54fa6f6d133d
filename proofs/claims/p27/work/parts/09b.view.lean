/-! ===== the class's memory, seen as such a state ===== -/
theorem upAnt_n {h : jM} {a b : Nat} {x y d r : Int32} (hb : ¬ b = a) : upAnt h a x y d r b = h b := by
  unfold upAnt
  rw [up2_n hb, up2_n hb, up2_n hb, up2_n hb]
theorem upAnt_s (h : jM) (a : Nat) (x y d r : Int32) : upAnt h a x y d r a = upd (upd (upd (upd (h a) 0 x) 1 y) 2 d) 3 r := by
  unfold upAnt
  rw [up2_s, up2_s, up2_s, up2_s]
def vX (h : jM) (k : Nat) : Nat → Int32 := fun i => if i < 6 then h (12 + i) k else 0
theorem vX_at (h : jM) (k : Nat) {i : Nat} (hi : i < 6) : vX h k i = h (12 + i) k := if_pos hi
def vS (h : jM) : aS := (h 2, vX h 0, vX h 1, vX h 2)
def vQ (h : jM) : aQ := (h 1 0, h 1 1, fun r c => if r < 4 ∧ (c : Int) < (h 1 1).toInt then h (6 + r) c else 0, vX h 3)
theorem vX_upAnt (h : jM) (x y d r : Int32) (k : Nat) {i : Nat} (hi : i < 6) : vX (upAnt h (12 + i) x y d r) k = upd (vX h k) i (upd (upd (upd (upd (h (12 + i)) 0 x) 1 y) 2 d) 3 r k) := by
  funext j
  by_cases c : j = i
  · subst c
    rw [upd_s, vX_at _ _ hi, upAnt_s]
  · rw [upd_n c]
    unfold vX
    by_cases hj : j < 6
    · rw [if_pos hj, if_pos hj, upAnt_n (by omega)]
    · rw [if_neg hj, if_neg hj]
theorem vVal_fl {h : jM} {m : Nat} (hv : aVal (vQ h) (vS h) m) : flOK h := by
  refine ⟨hv.1.1, hv.1.2.1, fun r c hr hc => ?_⟩
  have h1 := hv.1.2.2 r c hr hc
  have e : (vQ h).2.2.1 r c = h (6 + r) c := if_pos ⟨hr, hc⟩
  rw [e] at h1
  exact h1
theorem vVal_an {h : jM} {m i : Nat} (hv : aVal (vQ h) (vS h) m) (hi : i < m) (h6 : i < 6) : antOK h (12 + i) := by
  obtain ⟨h1, h2, h3⟩ := hv.2 i hi
  have e0 : (vS h).2.1 i = h (12 + i) 0 := vX_at h 0 h6
  have e1 : (vS h).2.2.1 i = h (12 + i) 1 := vX_at h 1 h6
  have e2 : (vS h).2.2.2 i = h (12 + i) 2 := vX_at h 2 h6
  have e3 : (vQ h).2.2.2 i = h (12 + i) 3 := vX_at h 3 h6
  rw [e0, e1] at h1
  rw [e2] at h2
  rw [e3] at h3
  exact ⟨h1, h2, h3⟩
theorem v_P (h : jM) {i : Nat} (h6 : i < 6) : cP h (12 + i) = aP (vS h) i := by
  unfold cP aP
  rw [show (vS h).2.1 i = h (12 + i) 0 from vX_at h 0 h6, show (vS h).2.2.1 i = h (12 + i) 1 from vX_at h 1 h6]
theorem v_C (h : jM) {i : Nat} (h6 : i < 6) : cCl h (12 + i) = aC (vS h) i := by
  unfold cCl aC; rw [v_P h h6]; rfl
theorem v_T {h : jM} {r c : Int32} (hr : vp_in r 4) (hc : 0 ≤ c.toInt ∧ c.toInt < (h 1 1).toInt) : (vQ h).2.2.1 r.toNatClampNeg c.toNatClampNeg = h (6 + r.toNatClampNeg) c.toNatClampNeg :=
  if_pos ⟨vp_in_clamp hr, by rw [clamp_int hc.1]; exact hc.2⟩
theorem v_Dr {h : jM} {i : Nat} (hf : aFl (vQ h) (vS h)) (ha : aAn (vQ h) (vS h) i) (h6 : i < 6) : cDr h (12 + i) = aDr (vQ h) (vS h) i := by
  have hc := aC_in hf ha
  have e3 : (vQ h).2.2.2 i = h (12 + i) 3 := vX_at h 3 h6
  have e2 : (vS h).2.2.2 i = h (12 + i) 2 := vX_at h 2 h6
  have hr := ha.2.2
  unfold cDr aDr
  rw [e2, v_T hr hc, e3, v_C h h6, jdirs_N]
  rfl
theorem v_Xn {h : jM} {i : Nat} (hf : aFl (vQ h) (vS h)) (ha : aAn (vQ h) (vS h) i) (h6 : i < 6) : cXn h (12 + i) = aXn (vQ h) (vS h) i := by
  unfold cXn aXn
  rw [v_Dr hf ha h6, show (vS h).2.1 i = h (12 + i) 0 from vX_at h 0 h6]; rfl
theorem v_Yn {h : jM} {i : Nat} (hf : aFl (vQ h) (vS h)) (ha : aAn (vQ h) (vS h) i) (h6 : i < 6) : cYn h (12 + i) = aYn (vQ h) (vS h) i := by
  unfold cYn aYn
  rw [v_Dr hf ha h6, show (vS h).2.2.1 i = h (12 + i) 1 from vX_at h 1 h6]; rfl
/-- nothing but colours, visits and ants is touched -/
def frS (h g : jM) : Prop := ∀ c, ¬ c = 2 → ¬ c = 3 → ¬ (12 ≤ c ∧ c < 18) → g c = h c
theorem frS_rf (h : jM) : frS h h := fun _ _ _ _ => rfl
theorem frS_tr {h g k : jM} (h1 : frS h g) (h2 : frS g k) : frS h k := fun c a b d => (h2 c a b d).trans (h1 c a b d)
theorem vQ_eq {h g : jM} (h1 : frS h g) (h3 : vX g 3 = vX h 3) : vQ g = vQ h := by
  unfold vQ
  have e1 := h1 1 (by decide) (by decide) (by decide)
  rw [h3, e1]
  have e2 : (fun r c : Nat => if r < 4 ∧ (c : Int) < (h 1 1).toInt then g (6 + r) c else 0) = (fun r c : Nat => if r < 4 ∧ (c : Int) < (h 1 1).toInt then h (6 + r) c else 0) := by
    funext r c
    by_cases q : r < 4 ∧ (c : Int) < (h 1 1).toInt
    · rw [if_pos q, if_pos q, h1 (6 + r) (by omega) (by omega) (by omega)]
    · rw [if_neg q, if_neg q]
  rw [e2]
theorem act_fr (h : jM) {i : Nat} (h6 : i < 6) : frS h (cActM h (12 + i)) := by
  intro c h1 h2 h3
  unfold cActM
  rw [upAnt_n (by omega), up2_n h2, up2_n h1]
theorem act_3 (h : jM) {i : Nat} (h6 : i < 6) : cActM h (12 + i) 3 = upd (h 3) (aP (vS h) i) (h 3 (aP (vS h) i) + 1) := by
  unfold cActM
  rw [upAnt_n (by omega), up2_s, up2_n (by decide : ¬ 3 = 2), v_P h h6]
theorem vQ_act (h : jM) {i : Nat} (h6 : i < 6) : vQ (cActM h (12 + i)) = vQ h := by
  refine vQ_eq (act_fr h h6) ?_
  unfold cActM
  rw [vX_upAnt _ _ _ _ _ _ h6]
  have e : vX (up2 (up2 h 2 (cP h (12 + i)) (if cCl h (12 + i) + 1 < h 1 1 then cCl h (12 + i) + 1 else 0)) 3 (cP h (12 + i)) (h 3 (cP h (12 + i)) + 1)) 3 = vX h 3 := by
    funext j
    unfold vX
    by_cases hj : j < 6
    · rw [if_pos hj, if_pos hj, up2_n (by omega), up2_n (by omega)]
    · rw [if_neg hj, if_neg hj]
  rw [e, upd_s, ← vX_at h 3 h6, upd_self]
theorem vX_up2 {h : jM} {c k : Nat} {v : Int32} (j : Nat) (hc : ¬ (12 ≤ c ∧ c < 18)) : vX (up2 h c k v) j = vX h j := by
  funext i
  unfold vX
  by_cases hi : i < 6
  · rw [if_pos hi, if_pos hi, up2_n (by omega)]
  · rw [if_neg hi, if_neg hi]
theorem vS_act {h : jM} {i : Nat} (hf : aFl (vQ h) (vS h)) (ha : aAn (vQ h) (vS h) i) (h6 : i < 6) : vS (cActM h (12 + i)) = aAct (vQ h) (vS h) i := by
  unfold vS aAct
  have e2 : cActM h (12 + i) 2 = upd (h 2) (aP (vS h) i) (if aC (vS h) i + 1 < (vQ h).2.1 then aC (vS h) i + 1 else 0) := by
    unfold cActM
    rw [upAnt_n (by omega), up2_n (by decide : ¬ 2 = 3), up2_s, v_P h h6, v_C h h6]
    rfl
  have eX : ∀ k, vX (cActM h (12 + i)) k = upd (vX h k) i (upd (upd (upd (upd (h (12 + i)) 0 (cXn h (12 + i))) 1 (cYn h (12 + i))) 2 (cDr h (12 + i))) 3 (h (12 + i) 3) k) := by
    intro k
    unfold cActM
    rw [vX_upAnt _ _ _ _ _ _ h6, vX_up2 _ (by decide), vX_up2 _ (by decide), up2_n (by omega), up2_n (by omega)]
  rw [e2, eX 0, eX 1, eX 2, v_Xn hf ha h6, v_Yn hf ha h6, v_Dr hf ha h6]
  rfl
-- an act back
theorem v_BX (h : jM) {i : Nat} (h6 : i < 6) : cBX h (12 + i) = aBX (vQ h) (vS h) i := by
  unfold cBX aBX
  rw [show (vS h).2.1 i = h (12 + i) 0 from vX_at h 0 h6, show (vS h).2.2.2 i = h (12 + i) 2 from vX_at h 2 h6]; rfl
theorem v_BY (h : jM) {i : Nat} (h6 : i < 6) : cBY h (12 + i) = aBY (vQ h) (vS h) i := by
  unfold cBY aBY
  rw [show (vS h).2.2.1 i = h (12 + i) 1 from vX_at h 1 h6, show (vS h).2.2.2 i = h (12 + i) 2 from vX_at h 2 h6]; rfl
theorem v_BP (h : jM) {i : Nat} (h6 : i < 6) : cBP h (12 + i) = aBP (vQ h) (vS h) i := by
  unfold cBP aBP; rw [v_BX h h6, v_BY h h6]
theorem v_BC (h : jM) {i : Nat} (h6 : i < 6) : cBC h (12 + i) = aBC (vQ h) (vS h) i := by
  unfold cBC aBC; rw [v_BP h h6]; rfl
theorem v_BD {h : jM} {i : Nat} (hf : aFl (vQ h) (vS h)) (ha : aAn (vQ h) (vS h) i) (hb : aBOK (vQ h) (vS h) i) (h6 : i < 6) : cBD h (12 + i) = aBD (vQ h) (vS h) i := by
  have hc := aBC_in hf hb
  have e3 : (vQ h).2.2.2 i = h (12 + i) 3 := vX_at h 3 h6
  have e2 : (vS h).2.2.2 i = h (12 + i) 2 := vX_at h 2 h6
  have hr := ha.2.2
  unfold cBD aBD
  rw [e2, v_T hr hc, e3, v_BC h h6, jdirs_N]
  rfl
theorem back_fr (h : jM) {i : Nat} (h6 : i < 6) : frS h (cBackM h (12 + i)) := by
  intro c h1 h2 h3
  unfold cBackM
  rw [upAnt_n (by omega), up2_n h2, up2_n h1]
theorem back_3 (h : jM) {i : Nat} (h6 : i < 6) : cBackM h (12 + i) 3 = upd (h 3) (aBP (vQ h) (vS h) i) (h 3 (aBP (vQ h) (vS h) i) - 1) := by
  unfold cBackM
  rw [upAnt_n (by omega), up2_s, up2_n (by decide : ¬ 3 = 2), v_BP h h6]
theorem vQ_back (h : jM) {i : Nat} (h6 : i < 6) : vQ (cBackM h (12 + i)) = vQ h := by
  refine vQ_eq (back_fr h h6) ?_
  unfold cBackM
  rw [vX_upAnt _ _ _ _ _ _ h6, vX_up2 _ (by decide), vX_up2 _ (by decide), upd_s, ← vX_at h 3 h6, upd_self]
theorem vS_back {h : jM} {i : Nat} (hf : aFl (vQ h) (vS h)) (ha : aAn (vQ h) (vS h) i) (hb : aBOK (vQ h) (vS h) i) (h6 : i < 6) : vS (cBackM h (12 + i)) = aBack (vQ h) (vS h) i := by
  unfold vS aBack
  have e2 : cBackM h (12 + i) 2 = upd (h 2) (aBP (vQ h) (vS h) i) (aBC (vQ h) (vS h) i) := by
    unfold cBackM
    rw [upAnt_n (by omega), up2_n (by decide : ¬ 2 = 3), up2_s, v_BP h h6, v_BC h h6]
  have eX : ∀ k, vX (cBackM h (12 + i)) k = upd (vX h k) i (upd (upd (upd (upd (h (12 + i)) 0 (cBX h (12 + i))) 1 (cBY h (12 + i))) 2 (cBD h (12 + i))) 3 (h (12 + i) 3) k) := by
    intro k
    unfold cBackM
    rw [vX_upAnt _ _ _ _ _ _ h6, vX_up2 _ (by decide), vX_up2 _ (by decide), up2_n (by omega), up2_n (by omega)]
  rw [e2, eX 0, eX 1, eX 2, v_BX h h6, v_BY h h6, v_BD hf ha hb h6]
  rfl
