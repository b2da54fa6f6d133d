/-! ===== the steps in numbers: a state is colours, x, y, directions; what goes with it: kind, n, letters, rules ===== -/
abbrev aS : Type := (Nat → Int32) × (Nat → Int32) × (Nat → Int32) × (Nat → Int32)
abbrev aQ : Type := Int32 × Int32 × (Nat → Nat → Int32) × (Nat → Int32)
def aDn (kd : Int32) : Nat := if kd = 1 then 6 else 4
def asX (kd d : Int32) : Int32 := if kd = 1 then jzr 2 d.toNatClampNeg else jzr 0 d.toNatClampNeg
def asY (kd d : Int32) : Int32 := if kd = 1 then jzr 3 d.toNatClampNeg else jzr 1 d.toNatClampNeg
noncomputable def aP (s : aS) (i : Nat) : Nat := (jpl (s.2.1 i) (s.2.2.1 i)).toNatClampNeg
noncomputable def aC (s : aS) (i : Nat) : Int32 := s.1 (aP s i)
noncomputable def aDr (q : aQ) (s : aS) (i : Nat) : Int32 := jturn (nI (aDn q.1)) (s.2.2.2 i + q.2.2.1 (q.2.2.2 i).toNatClampNeg (aC s i).toNatClampNeg)
noncomputable def aXn (q : aQ) (s : aS) (i : Nat) : Int32 := s.2.1 i + asX q.1 (aDr q s i)
noncomputable def aYn (q : aQ) (s : aS) (i : Nat) : Int32 := s.2.2.1 i + asY q.1 (aDr q s i)
def aOK (q : aQ) (s : aS) (i : Nat) : Prop := onF (aXn q s i) (aYn q s i)
noncomputable def aAct (q : aQ) (s : aS) (i : Nat) : aS := (upd s.1 (aP s i) (if aC s i + 1 < q.2.1 then aC s i + 1 else 0), upd s.2.1 i (aXn q s i), upd s.2.2.1 i (aYn q s i), upd s.2.2.2 i (aDr q s i))
def aBX (q : aQ) (s : aS) (i : Nat) : Int32 := s.2.1 i - asX q.1 (s.2.2.2 i)
def aBY (q : aQ) (s : aS) (i : Nat) : Int32 := s.2.2.1 i - asY q.1 (s.2.2.2 i)
def aBOK (q : aQ) (s : aS) (i : Nat) : Prop := onF (aBX q s i) (aBY q s i)
noncomputable def aBP (q : aQ) (s : aS) (i : Nat) : Nat := (jpl (aBX q s i) (aBY q s i)).toNatClampNeg
noncomputable def aBC (q : aQ) (s : aS) (i : Nat) : Int32 := if s.1 (aBP q s i) ≤ 0 then q.2.1 - 1 else s.1 (aBP q s i) - 1
noncomputable def aBD (q : aQ) (s : aS) (i : Nat) : Int32 := jturn (nI (aDn q.1)) (s.2.2.2 i + -(q.2.2.1 (q.2.2.2 i).toNatClampNeg (aBC q s i).toNatClampNeg))
noncomputable def aBack (q : aQ) (s : aS) (i : Nat) : aS := (upd s.1 (aBP q s i) (aBC q s i), upd s.2.1 i (aBX q s i), upd s.2.2.1 i (aBY q s i), upd s.2.2.2 i (aBD q s i))
/-- such states as there are -/
def aFl (q : aQ) (s : aS) : Prop := (2 ≤ q.2.1.toInt ∧ q.2.1.toInt ≤ 12) ∧ (∀ i, i < 57600 → 0 ≤ (s.1 i).toInt ∧ (s.1 i).toInt < q.2.1.toInt) ∧ (∀ r c : Nat, r < 4 → (c : Int) < q.2.1.toInt → 0 ≤ (q.2.2.1 r c).toInt ∧ (q.2.2.1 r c).toInt < (aDn q.1 : Int))
def aAn (q : aQ) (s : aS) (i : Nat) : Prop := onF (s.2.1 i) (s.2.2.1 i) ∧ vp_in (s.2.2.2 i) (aDn q.1) ∧ vp_in (q.2.2.2 i) 4
def aVal (q : aQ) (s : aS) (m : Nat) : Prop := aFl q s ∧ ∀ i, i < m → aAn q s i
theorem aDn_le (kd : Int32) : 4 ≤ aDn kd ∧ aDn kd ≤ 6 := by
  unfold aDn
  by_cases c : kd = 1
  · rw [if_pos c]; omega
  · rw [if_neg c]; omega
theorem aP_lt {q : aQ} {s : aS} {i : Nat} (h : aAn q s i) : aP s i < 57600 := vp_in_clamp (jpl_in h.1)
theorem aC_in {q : aQ} {s : aS} {i : Nat} (hf : aFl q s) (h : aAn q s i) : 0 ≤ (aC s i).toInt ∧ (aC s i).toInt < q.2.1.toInt := hf.2.1 _ (aP_lt h)
theorem aT_in {q : aQ} {s : aS} {i : Nat} (hf : aFl q s) (h : aAn q s i) : 0 ≤ (q.2.2.1 (q.2.2.2 i).toNatClampNeg (aC s i).toNatClampNeg).toInt ∧ (q.2.2.1 (q.2.2.2 i).toNatClampNeg (aC s i).toNatClampNeg).toInt < (aDn q.1 : Int) := by
  have hc := aC_in hf h
  exact hf.2.2 _ _ (vp_in_clamp h.2.2) (by rw [clamp_int hc.1]; exact hc.2)
theorem aDr_in {q : aQ} {s : aS} {i : Nat} (hf : aFl q s) (h : aAn q s i) : vp_in (aDr q s i) (aDn q.1) := jturn_in (aDn_le q.1).2 h.2.1 (aT_in hf h)
theorem aNc_in {q : aQ} {s : aS} {i : Nat} (hf : aFl q s) (h : aAn q s i) : 0 ≤ (if aC s i + 1 < q.2.1 then aC s i + 1 else 0 : Int32).toInt ∧ (if aC s i + 1 < q.2.1 then aC s i + 1 else 0 : Int32).toInt < q.2.1.toInt := by
  have hc := aC_in hf h
  have hn := hf.1
  have e : (aC s i + 1).toInt = (aC s i).toInt + 1 := ti_add (by show _ ≤ _ + (1 : Int); omega) (by show _ + (1 : Int) < _; omega)
  by_cases c : aC s i + 1 < q.2.1
  · rw [if_pos c]
    rw [Int32.lt_iff_toInt_lt] at c
    exact ⟨by rw [e]; omega, c⟩
  · rw [if_neg c]
    exact ⟨by decide, by show (0 : Int) < _; omega⟩
theorem upd_in {f : Nat → Int32} {k : Nat} {v : Int32} {P : Int32 → Prop} {N : Nat} (hf : ∀ i, i < N → P (f i)) (hv : P v) : ∀ i, i < N → P (upd f k v i) := by
  intro i hi
  by_cases c : i = k
  · subst c; rw [upd_s]; exact hv
  · rw [upd_n c]; exact hf i hi
theorem aFl_act {q : aQ} {s : aS} {i : Nat} (hf : aFl q s) (h : aAn q s i) : aFl q (aAct q s i) :=
  ⟨hf.1, upd_in (P := fun v : Int32 => 0 ≤ v.toInt ∧ v.toInt < q.2.1.toInt) hf.2.1 (aNc_in hf h), hf.2.2⟩
theorem aAn_act {q : aQ} {s : aS} {i j : Nat} (hf : aFl q s) (h : aAn q s i) (ho : aOK q s i) (hj : aAn q s j) : aAn q (aAct q s i) j := by
  by_cases c : j = i
  · subst c
    refine ⟨?_, ?_, h.2.2⟩
    · show onF (upd s.2.1 j (aXn q s j) j) (upd s.2.2.1 j (aYn q s j) j)
      rw [upd_s, upd_s]; exact ho
    · show vp_in (upd s.2.2.2 j (aDr q s j) j) _
      rw [upd_s]; exact aDr_in hf h
  · refine ⟨?_, ?_, hj.2.2⟩
    · show onF (upd s.2.1 i (aXn q s i) j) (upd s.2.2.1 i (aYn q s i) j)
      rw [upd_n c, upd_n c]; exact hj.1
    · show vp_in (upd s.2.2.2 i (aDr q s i) j) _
      rw [upd_n c]; exact hj.2.1
theorem aVal_act {q : aQ} {s : aS} {i m : Nat} (hv : aVal q s m) (hi : i < m) (ho : aOK q s i) : aVal q (aAct q s i) m :=
  ⟨aFl_act hv.1 (hv.2 i hi), fun j hj => aAn_act hv.1 (hv.2 i hi) ho (hv.2 j hj)⟩
-- an act back
theorem aBP_lt {q : aQ} {s : aS} {i : Nat} (h : aBOK q s i) : aBP q s i < 57600 := vp_in_clamp (jpl_in h)
theorem aBC_in {q : aQ} {s : aS} {i : Nat} (hf : aFl q s) (h : aBOK q s i) : 0 ≤ (aBC q s i).toInt ∧ (aBC q s i).toInt < q.2.1.toInt := by
  have hc := hf.2.1 _ (aBP_lt h)
  have hn := hf.1
  unfold aBC
  by_cases c : s.1 (aBP q s i) ≤ 0
  · rw [if_pos c]
    have e : (q.2.1 - 1).toInt = q.2.1.toInt - 1 := ti_sub (by show _ ≤ _ - (1 : Int); omega) (by show _ - (1 : Int) < _; omega)
    rw [e]; omega
  · rw [if_neg c]
    rw [Int32.le_iff_toInt_le] at c
    have c' : ¬ (s.1 (aBP q s i)).toInt ≤ 0 := c
    have e : (s.1 (aBP q s i) - 1).toInt = (s.1 (aBP q s i)).toInt - 1 := ti_sub (by show _ ≤ _ - (1 : Int); omega) (by show _ - (1 : Int) < _; omega)
    rw [e]; omega
theorem aBT_in {q : aQ} {s : aS} {i : Nat} (hf : aFl q s) (h : aAn q s i) (hb : aBOK q s i) : 0 ≤ (q.2.2.1 (q.2.2.2 i).toNatClampNeg (aBC q s i).toNatClampNeg).toInt ∧ (q.2.2.1 (q.2.2.2 i).toNatClampNeg (aBC q s i).toNatClampNeg).toInt < (aDn q.1 : Int) := by
  have hc := aBC_in hf hb
  exact hf.2.2 _ _ (vp_in_clamp h.2.2) (by rw [clamp_int hc.1]; exact hc.2)
theorem aBD_in {q : aQ} {s : aS} {i : Nat} (hf : aFl q s) (h : aAn q s i) (hb : aBOK q s i) : vp_in (aBD q s i) (aDn q.1) := jturn_back (aDn_le q.1).2 h.2.1 (aBT_in hf h hb)
theorem aVal_back {q : aQ} {s : aS} {i m : Nat} (hv : aVal q s m) (hi : i < m) (hb : aBOK q s i) : aVal q (aBack q s i) m := by
  refine ⟨⟨hv.1.1, upd_in (P := fun v : Int32 => 0 ≤ v.toInt ∧ v.toInt < q.2.1.toInt) hv.1.2.1 (aBC_in hv.1 hb), hv.1.2.2⟩, fun j hj => ?_⟩
  by_cases c : j = i
  · subst c
    refine ⟨?_, ?_, (hv.2 j hj).2.2⟩
    · show onF (upd s.2.1 j (aBX q s j) j) (upd s.2.2.1 j (aBY q s j) j)
      rw [upd_s, upd_s]; exact hb
    · show vp_in (upd s.2.2.2 j (aBD q s j) j) _
      rw [upd_s]; exact aBD_in hv.1 (hv.2 j hj) hb
  · refine ⟨?_, ?_, (hv.2 j hj).2.2⟩
    · show onF (upd s.2.1 i (aBX q s i) j) (upd s.2.2.1 i (aBY q s i) j)
      rw [upd_n c, upd_n c]; exact (hv.2 j hj).1
    · show vp_in (upd s.2.2.2 i (aBD q s i) j) _
      rw [upd_n c]; exact (hv.2 j hj).2.1
-- one undoes the other
theorem upd_upd (f : Nat → Int32) (k : Nat) (v w : Int32) : upd (upd f k v) k w = upd f k w := by
  funext j
  by_cases c : j = k
  · subst c; rw [upd_s, upd_s]
  · rw [upd_n c, upd_n c, upd_n c]
theorem upd_self (f : Nat → Int32) (k : Nat) : upd f k (f k) = f := by
  funext j
  by_cases c : j = k
  · subst c; rw [upd_s]
  · rw [upd_n c]
theorem i32_as (x y : Int32) : x + y - y = x := by
  apply Int32.toBitVec_inj.mp
  simp [BitVec.add_sub_cancel]
theorem i32_sa (x y : Int32) : x - y + y = x := by
  apply Int32.toBitVec_inj.mp
  simp [BitVec.sub_add_cancel]
theorem jturn_inv {D : Nat} {d t : Int32} (hD : D ≤ 6) (h1 : vp_in d D) (h2 : 0 ≤ t.toInt ∧ t.toInt < D) : jturn (nI D) (jturn (nI D) (d + t) + -t) = d := by
  rw [vp_in_iff] at h1
  have hn : (nI D).toInt = D := nI_toInt (by omega)
  have hm : (-t).toInt = -t.toInt := ti_neg (by omega)
  have hs : (d + t).toInt = d.toInt + t.toInt := ti_add (by omega) (by omega)
  have c0 : ¬ d + t < 0 := by
    rw [Int32.lt_iff_toInt_lt, hs]
    show ¬ _ < (0 : Int)
    omega
  have e1 : jturn (nI D) (d + t) = if d + t < nI D then d + t else d + t - nI D := if_neg c0
  rw [e1]
  apply Int32.toInt_inj.mp
  by_cases c : d + t < nI D
  · rw [if_pos c]
    have h3 : (d + t + -t).toInt = d.toInt := by rw [ti_add (by rw [hs, hm]; omega) (by rw [hs, hm]; omega), hs, hm]; omega
    unfold jturn
    rw [if_neg (by rw [Int32.lt_iff_toInt_lt, h3]; show ¬ _ < (0 : Int); omega), if_pos (by rw [Int32.lt_iff_toInt_lt, h3, hn]; omega), h3]
  · rw [if_neg c]
    rw [Int32.lt_iff_toInt_lt, hs, hn] at c
    have h4 : (d + t - nI D).toInt = d.toInt + t.toInt - D := by rw [ti_sub (by rw [hs, hn]; omega) (by rw [hs, hn]; omega), hs, hn]
    have h3 : (d + t - nI D + -t).toInt = d.toInt - D := by rw [ti_add (by rw [h4, hm]; omega) (by rw [h4, hm]; omega), h4, hm]; omega
    unfold jturn
    rw [if_pos (by rw [Int32.lt_iff_toInt_lt, h3]; show _ < (0 : Int); omega)]
    rw [ti_add (by rw [h3, hn]; omega) (by rw [h3, hn]; omega), h3, hn]
    omega
theorem jturn_inv2 {D : Nat} {d t : Int32} (hD : D ≤ 6) (h1 : vp_in d D) (h2 : 0 ≤ t.toInt ∧ t.toInt < D) : jturn (nI D) (jturn (nI D) (d + -t) + t) = d := by
  rw [vp_in_iff] at h1
  have hn : (nI D).toInt = D := nI_toInt (by omega)
  have hm : (-t).toInt = -t.toInt := ti_neg (by omega)
  have hs : (d + -t).toInt = d.toInt - t.toInt := by rw [ti_add (by omega) (by omega)]; omega
  apply Int32.toInt_inj.mp
  by_cases c : d + -t < 0
  · have e1 : jturn (nI D) (d + -t) = d + -t + nI D := if_pos c
    rw [e1]
    rw [Int32.lt_iff_toInt_lt, hs] at c
    have c' : d.toInt - t.toInt < 0 := c
    have h4 : (d + -t + nI D).toInt = d.toInt - t.toInt + D := by rw [ti_add (by rw [hs, hn]; omega) (by rw [hs, hn]; omega), hs, hn]
    have h3 : (d + -t + nI D + t).toInt = d.toInt + D := by rw [ti_add (by rw [h4]; omega) (by rw [h4]; omega), h4]; omega
    unfold jturn
    rw [if_neg (by rw [Int32.lt_iff_toInt_lt, h3]; show ¬ _ < (0 : Int); omega), if_neg (by rw [Int32.lt_iff_toInt_lt, h3, hn]; omega)]
    rw [ti_sub (by rw [h3, hn]; omega) (by rw [h3, hn]; omega), h3, hn]
    omega
  · have c2 : d + -t < nI D := by rw [Int32.lt_iff_toInt_lt, hs, hn]; omega
    have e1 : jturn (nI D) (d + -t) = d + -t := by unfold jturn; rw [if_neg c, if_pos c2]
    rw [e1]
    have h3 : (d + -t + t).toInt = d.toInt := by rw [ti_add (by rw [hs]; omega) (by rw [hs]; omega), hs]; omega
    unfold jturn
    rw [if_neg (by rw [Int32.lt_iff_toInt_lt, h3]; show ¬ _ < (0 : Int); omega), if_pos (by rw [Int32.lt_iff_toInt_lt, h3, hn]; omega), h3]
theorem aBack_act {q : aQ} {s : aS} {i : Nat} (hf : aFl q s) (h : aAn q s i) (ho : aOK q s i) : aBOK q (aAct q s i) i ∧ aBP q (aAct q s i) i = aP s i ∧ aBack q (aAct q s i) i = s := by
  have eX : aBX q (aAct q s i) i = s.2.1 i := by
    show upd s.2.1 i (aXn q s i) i - asX q.1 (upd s.2.2.2 i (aDr q s i) i) = _
    rw [upd_s, upd_s]; exact i32_as _ _
  have eY : aBY q (aAct q s i) i = s.2.2.1 i := by
    show upd s.2.2.1 i (aYn q s i) i - asY q.1 (upd s.2.2.2 i (aDr q s i) i) = _
    rw [upd_s, upd_s]; exact i32_as _ _
  have eP : aBP q (aAct q s i) i = aP s i := by unfold aBP aP; rw [eX, eY]
  have hc := aC_in hf h
  have hn := hf.1
  have e1 : (aC s i + 1).toInt = (aC s i).toInt + 1 := ti_add (by show _ ≤ _ + (1 : Int); omega) (by show _ + (1 : Int) < _; omega)
  have eC : aBC q (aAct q s i) i = aC s i := by
    unfold aBC
    rw [eP]
    show (if upd s.1 (aP s i) _ (aP s i) ≤ 0 then q.2.1 - 1 else upd s.1 (aP s i) _ (aP s i) - 1) = _
    rw [upd_s]
    apply Int32.toInt_inj.mp
    by_cases c : aC s i + 1 < q.2.1
    · rw [if_pos c]
      rw [if_neg (by rw [Int32.le_iff_toInt_le, e1]; show ¬ _ ≤ (0 : Int); omega)]
      rw [i32_as]
    · rw [if_neg c, if_pos (Int32.le_refl 0)]
      rw [Int32.lt_iff_toInt_lt, e1] at c
      have e : (q.2.1 - 1).toInt = q.2.1.toInt - 1 := ti_sub (by show _ ≤ _ - (1 : Int); omega) (by show _ - (1 : Int) < _; omega)
      rw [e]; omega
  have eD : aBD q (aAct q s i) i = s.2.2.2 i := by
    unfold aBD
    rw [eC]
    show jturn _ (upd s.2.2.2 i (aDr q s i) i + _) = _
    rw [upd_s]
    exact jturn_inv (aDn_le q.1).2 h.2.1 (aT_in hf h)
  refine ⟨?_, eP, ?_⟩
  · unfold aBOK; rw [eX, eY]; exact h.1
  · unfold aBack
    rw [eP, eC, eX, eY, eD]
    show (upd (upd s.1 (aP s i) _) (aP s i) (s.1 (aP s i)), upd (upd s.2.1 i _) i (s.2.1 i), upd (upd s.2.2.1 i _) i (s.2.2.1 i), upd (upd s.2.2.2 i _) i (s.2.2.2 i)) = s
    rw [upd_upd, upd_self, upd_upd, upd_self, upd_upd, upd_self, upd_upd, upd_self]
theorem aAct_back {q : aQ} {s : aS} {i : Nat} (hf : aFl q s) (h : aAn q s i) (hb : aBOK q s i) : aOK q (aBack q s i) i ∧ aP (aBack q s i) i = aBP q s i ∧ aAct q (aBack q s i) i = s := by
  have eP : aP (aBack q s i) i = aBP q s i := by
    show (jpl (upd s.2.1 i (aBX q s i) i) (upd s.2.2.1 i (aBY q s i) i)).toNatClampNeg = _
    rw [upd_s, upd_s]; rfl
  have eC : aC (aBack q s i) i = aBC q s i := by
    unfold aC
    rw [eP]
    show upd s.1 (aBP q s i) (aBC q s i) (aBP q s i) = _
    rw [upd_s]
  have eD : aDr q (aBack q s i) i = s.2.2.2 i := by
    unfold aDr
    rw [eC]
    show jturn _ (upd s.2.2.2 i (aBD q s i) i + _) = _
    rw [upd_s]
    exact jturn_inv2 (aDn_le q.1).2 h.2.1 (aBT_in hf h hb)
  have eX : aXn q (aBack q s i) i = s.2.1 i := by
    unfold aXn
    rw [eD]
    show upd s.2.1 i (aBX q s i) i + _ = _
    rw [upd_s]; exact i32_sa _ _
  have eY : aYn q (aBack q s i) i = s.2.2.1 i := by
    unfold aYn
    rw [eD]
    show upd s.2.2.1 i (aBY q s i) i + _ = _
    rw [upd_s]; exact i32_sa _ _
  have hc := hf.2.1 _ (aBP_lt hb)
  have hn := hf.1
  have eN : (if aC (aBack q s i) i + 1 < q.2.1 then aC (aBack q s i) i + 1 else 0) = s.1 (aBP q s i) := by
    rw [eC]
    unfold aBC
    apply Int32.toInt_inj.mp
    by_cases c : s.1 (aBP q s i) ≤ 0
    · rw [if_pos c, i32_sa, if_neg (fun q2 => by rw [Int32.lt_iff_toInt_lt] at q2; omega)]
      rw [Int32.le_iff_toInt_le] at c
      have c' : (s.1 (aBP q s i)).toInt ≤ 0 := c
      show (0 : Int) = _
      omega
    · rw [if_neg c, i32_sa, if_pos (by rw [Int32.lt_iff_toInt_lt]; exact hc.2)]
  refine ⟨?_, eP, ?_⟩
  · unfold aOK; rw [eX, eY]; exact h.1
  · unfold aAct
    rw [eN, eP, eX, eY, eD]
    show (upd (upd s.1 (aBP q s i) _) (aBP q s i) (s.1 (aBP q s i)), upd (upd s.2.1 i _) i (s.2.1 i), upd (upd s.2.2.1 i _) i (s.2.2.1 i), upd (upd s.2.2.2 i _) i (s.2.2.2 i)) = s
    rw [upd_upd, upd_self, upd_upd, upd_self, upd_upd, upd_self, upd_upd, upd_self]
/-- the acts of ants 0 .. i - 1 -/
noncomputable def aActs (q : aQ) (s : aS) : Nat → aS
  | 0 => s
  | i + 1 => aAct q (aActs q s i) i
def aAll (q : aQ) (s : aS) (m : Nat) : Prop := ∀ i, i < m → aOK q (aActs q s i) i
theorem aVal_acts {q : aQ} {s : aS} {m : Nat} (hv : aVal q s m) : ∀ i, i ≤ m → aAll q s i → aVal q (aActs q s i) m
  | 0, _, _ => hv
  | i + 1, hi, ha => aVal_act (aVal_acts hv i (by omega) (fun j hj => ha j (by omega))) (by omega) (ha i (by omega))
theorem aActs_at (q : aQ) (s : aS) : ∀ i j, i ≤ j → (aActs q s i).2.1 j = s.2.1 j ∧ (aActs q s i).2.2.1 j = s.2.2.1 j
  | 0, j, _ => ⟨rfl, rfl⟩
  | i + 1, j, h => by
    obtain ⟨h1, h2⟩ := aActs_at q s i j (by omega)
    refine ⟨?_, ?_⟩
    · show upd (aActs q s i).2.1 i _ j = _
      rw [upd_n (by omega)]; exact h1
    · show upd (aActs q s i).2.2.1 i _ j = _
      rw [upd_n (by omega)]; exact h2
theorem aP_acts (q : aQ) (s : aS) (i : Nat) : aP (aActs q s i) i = aP s i := by
  obtain ⟨h1, h2⟩ := aActs_at q s i i (Nat.le_refl i)
  unfold aP; rw [h1, h2]
/-- the acts back of ants m - 1, m - 2, .., k of them -/
noncomputable def aBks (q : aQ) (s : aS) (m : Nat) : Nat → aS
  | 0 => s
  | k + 1 => aBack q (aBks q s m k) (m - 1 - k)
def aBAll (q : aQ) (s : aS) (m : Nat) : Prop := ∀ k, k < m → aBOK q (aBks q s m k) (m - 1 - k)
theorem aVal_bks {q : aQ} {s : aS} {m : Nat} (hv : aVal q s m) : ∀ k, k ≤ m → (∀ j, j < k → aBOK q (aBks q s m j) (m - 1 - j)) → aVal q (aBks q s m k) m
  | 0, _, _ => hv
  | k + 1, hk, ha => aVal_back (aVal_bks hv k (by omega) (fun j hj => ha j (by omega))) (by omega) (ha k (by omega))
/-- visits: one more at the places of 0 .. i - 1 -/
def vB (P : Nat → Nat) (v : Nat → Int32) : Nat → Nat → Int32
  | 0 => v
  | i + 1 => upd (vB P v i) (P i) (vB P v i (P i) + 1)
/-- visits: one less at the places P (m - 1), P (m - 2), .. -/
def vL (P : Nat → Nat) (v : Nat → Int32) (m : Nat) : Nat → Nat → Int32
  | 0 => v
  | k + 1 => upd (vL P v m k) (P (m - 1 - k)) (vL P v m k (P (m - 1 - k)) - 1)
theorem vB_undo (P : Nat → Nat) (v : Nat → Int32) (i : Nat) : upd (vB P v (i + 1)) (P i) (vB P v (i + 1) (P i) - 1) = vB P v i := by
  show upd (upd (vB P v i) (P i) (vB P v i (P i) + 1)) (P i) (upd (vB P v i) (P i) (vB P v i (P i) + 1) (P i) - 1) = _
  rw [upd_upd, upd_s, i32_as, upd_self]
theorem vL_undo (P : Nat → Nat) (v : Nat → Int32) (m k : Nat) : upd (vL P v m (k + 1)) (P (m - 1 - k)) (vL P v m (k + 1) (P (m - 1 - k)) + 1) = vL P v m k := by
  show upd (upd (vL P v m k) (P (m - 1 - k)) (vL P v m k (P (m - 1 - k)) - 1)) (P (m - 1 - k)) (upd (vL P v m k) (P (m - 1 - k)) (vL P v m k (P (m - 1 - k)) - 1) (P (m - 1 - k)) + 1) = _
  rw [upd_upd, upd_s, i32_sa, upd_self]
