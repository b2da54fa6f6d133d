/-! ===== moves: steps forth, steps back, many of them ===== -/
/-- n moves by f, each allowed -/
def mvG {α : Type} (ok : α → Prop) (f : α → α) : Nat → α → α → Prop
  | 0, s, t => t = s
  | n + 1, s, t => ok s ∧ mvG ok f n (f s) t
theorem mvG_snoc {α : Type} {ok : α → Prop} {f : α → α} : ∀ {n : Nat} {s t : α}, mvG ok f n s t → ok t → mvG ok f (n + 1) s (f t)
  | 0, s, t, h, ht => by
    cases h
    exact ⟨ht, rfl⟩
  | n + 1, s, t, h, ht => ⟨h.1, mvG_snoc h.2 ht⟩
theorem mvG_app {α : Type} {ok : α → Prop} {f : α → α} : ∀ {n m : Nat} {s t u : α}, mvG ok f n s t → mvG ok f m t u → mvG ok f (n + m) s u
  | 0, m, s, t, u, h, h2 => by
    cases h
    rw [Nat.zero_add]
    exact h2
  | n + 1, m, s, t, u, h, h2 => by
    rw [show n + 1 + m = (n + m) + 1 by omega]
    exact ⟨h.1, mvG_app h.2 h2⟩
theorem mvG_cut {α : Type} {ok : α → Prop} {f : α → α} : ∀ {n m : Nat} {s t u : α}, mvG ok f n s t → mvG ok f (n + m) s u → mvG ok f m t u
  | 0, m, s, t, u, h, h2 => by
    cases h
    rw [Nat.zero_add] at h2
    exact h2
  | n + 1, m, s, t, u, h, h2 => by
    rw [show n + 1 + m = (n + m) + 1 by omega] at h2
    exact mvG_cut h.2 h2.2
theorem mvG_det {α : Type} {ok : α → Prop} {f : α → α} {n : Nat} {s t u : α} (h : mvG ok f n s t) (h2 : mvG ok f n s u) : u = t := mvG_cut (m := 0) h h2
/-- ahead of the end one more is allowed -/
theorem mvG_ok {α : Type} {ok : α → Prop} {f : α → α} {n w : Nat} {s t u : α} (h : mvG ok f n s t) (h2 : mvG ok f w s u) (hn : n < w) : ok t := by
  obtain ⟨m, rfl⟩ : ∃ m, w = n + (m + 1) := ⟨w - n - 1, by omega⟩
  exact (mvG_cut h h2).1
noncomputable def gD (d : Bool) (q : aQ) (cnt : Nat) (s : aS) : aS := if d = true then aActs q s cnt else aBks q s cnt cnt
def okD (d : Bool) (q : aQ) (cnt : Nat) (s : aS) : Prop := if d = true then aAll q s cnt else aBAll q s cnt
theorem acts_back {q : aQ} {s : aS} {cnt : Nat} (hv : aVal q s cnt) (ha : aAll q s cnt) : ∀ k, k ≤ cnt → aBks q (aActs q s cnt) cnt k = aActs q s (cnt - k) ∧ (∀ j, j < k → aBOK q (aBks q (aActs q s cnt) cnt j) (cnt - 1 - j))
  | 0, _ => ⟨rfl, fun j hj => absurd hj (by omega)⟩
  | k + 1, hk => by
    obtain ⟨h1, h2⟩ := acts_back hv ha k (by omega)
    have e : cnt - k = (cnt - 1 - k) + 1 := by omega
    have hi : cnt - 1 - k < cnt := by omega
    have hv2 := aVal_acts hv (cnt - 1 - k) (by omega) (fun j hj => ha j (by omega))
    obtain ⟨b1, -, b3⟩ := aBack_act hv2.1 (hv2.2 _ hi) (ha _ hi)
    have e2 : aBks q (aActs q s cnt) cnt k = aAct q (aActs q s (cnt - 1 - k)) (cnt - 1 - k) := by rw [h1, e]; rfl
    refine ⟨?_, fun j hj => ?_⟩
    · show aBack q (aBks q (aActs q s cnt) cnt k) (cnt - 1 - k) = _
      rw [e2, b3, show cnt - (k + 1) = cnt - 1 - k by omega]
    · by_cases hjk : j < k
      · exact h2 j hjk
      · have : j = k := by omega
        subst this
        rw [e2]
        exact b1
theorem bks_acts {q : aQ} {s : aS} {cnt : Nat} (hv : aVal q s cnt) (ha : aBAll q s cnt) : ∀ i, i ≤ cnt → aActs q (aBks q s cnt cnt) i = aBks q s cnt (cnt - i) ∧ (∀ j, j < i → aOK q (aActs q (aBks q s cnt cnt) j) j)
  | 0, _ => ⟨rfl, fun j hj => absurd hj (by omega)⟩
  | i + 1, hi => by
    obtain ⟨h1, h2⟩ := bks_acts hv ha i (by omega)
    have e : cnt - i = (cnt - i - 1) + 1 := by omega
    have hk : cnt - i - 1 < cnt := by omega
    have hv2 := aVal_bks hv (cnt - i - 1) (by omega) (fun j hj => ha j (by omega))
    have ei : cnt - 1 - (cnt - i - 1) = i := by omega
    have hb := ha _ hk
    rw [ei] at hb
    obtain ⟨b1, -, b3⟩ := aAct_back hv2.1 (hv2.2 i (by omega)) hb
    have e2 : aActs q (aBks q s cnt cnt) i = aBack q (aBks q s cnt (cnt - i - 1)) i := by
      have e3 : ∀ k, k = (cnt - i - 1) + 1 → aBks q s cnt k = aBack q (aBks q s cnt (cnt - i - 1)) i := by
        rintro _ rfl
        show aBack q (aBks q s cnt (cnt - i - 1)) (cnt - 1 - (cnt - i - 1)) = _
        rw [ei]
      rw [h1]
      exact e3 _ e
    refine ⟨?_, fun j hj => ?_⟩
    · show aAct q (aActs q (aBks q s cnt cnt) i) i = _
      rw [e2, b3, show cnt - (i + 1) = cnt - i - 1 by omega]
    · by_cases hji : j < i
      · exact h2 j hji
      · have : j = i := by omega
        subst this
        rw [e2]
        exact b1
theorem gD_val {d : Bool} {q : aQ} {s : aS} {cnt : Nat} (hv : aVal q s cnt) (ho : okD d q cnt s) : aVal q (gD d q cnt s) cnt := by
  cases d with
  | true => exact aVal_acts hv cnt (Nat.le_refl _) ho
  | false => exact aVal_bks hv cnt (Nat.le_refl _) ho
/-- one way, then the other: home -/
theorem gD_home {d : Bool} {q : aQ} {s : aS} {cnt : Nat} (hv : aVal q s cnt) (ho : okD d q cnt s) : okD (!d) q cnt (gD d q cnt s) ∧ gD (!d) q cnt (gD d q cnt s) = s := by
  cases d with
  | true =>
    obtain ⟨h1, h2⟩ := acts_back hv ho cnt (Nat.le_refl _)
    refine ⟨h2, ?_⟩
    show aBks q (aActs q s cnt) cnt cnt = s
    rw [h1, Nat.sub_self]
    rfl
  | false =>
    obtain ⟨h1, h2⟩ := bks_acts hv ho cnt (Nat.le_refl _)
    refine ⟨h2, ?_⟩
    show aActs q (aBks q s cnt cnt) cnt = s
    rw [h1, Nat.sub_self]
    rfl
abbrev mvS (d : Bool) (q : aQ) (cnt : Nat) : Nat → aS → aS → Prop := mvG (okD d q cnt) (gD d q cnt)
theorem mvS_val {d : Bool} {q : aQ} {cnt : Nat} : ∀ {n : Nat} {s t : aS}, aVal q s cnt → mvS d q cnt n s t → aVal q t cnt
  | 0, s, t, hv, h => by
    cases h
    exact hv
  | n + 1, s, t, hv, h => mvS_val (gD_val hv h.1) h.2
theorem mvS_flip {d : Bool} {q : aQ} {cnt : Nat} : ∀ {n : Nat} {s t : aS}, aVal q s cnt → mvS d q cnt n s t → mvS (!d) q cnt n t s
  | 0, s, t, _, h => by
    cases h
    exact rfl
  | n + 1, s, t, hv, h => by
    obtain ⟨h1, h2⟩ := gD_home hv h.1
    have h3 := mvG_snoc (mvS_flip (gD_val hv h.1) h.2) h1
    rw [h2] at h3
    exact h3
def sgn (d : Bool) (n : Nat) : Int := if d = true then (n : Int) else -(n : Int)
/-- where one comes from s0 by t steps, forth or back -/
def Rch (q : aQ) (cnt : Nat) (s0 : aS) (t : Int) (s : aS) : Prop := ∃ (d : Bool) (n : Nat), t = sgn d n ∧ mvS d q cnt n s0 s
theorem Rch_mv {q : aQ} {cnt : Nat} {s0 s s' : aS} {t : Int} {d : Bool} {k : Nat} (hv : aVal q s0 cnt) (h : Rch q cnt s0 t s) (hm : mvS d q cnt k s s') : Rch q cnt s0 (t + sgn d k) s' := by
  obtain ⟨d1, n, rfl, h1⟩ := h
  by_cases hd : d1 = d
  · subst hd
    refine ⟨d1, n + k, ?_, mvG_app h1 hm⟩
    unfold sgn
    cases d1 <;> simp <;> omega
  · have ed : d = !d1 := by cases d <;> cases d1 <;> simp_all
    have hf := mvS_flip hv h1
    rw [← ed] at hf
    have hvs := mvS_val hv h1
    by_cases hk : k ≤ n
    · obtain ⟨m, rfl⟩ : ∃ m, n = k + m := ⟨n - k, by omega⟩
      have h2 := mvG_cut hm hf
      have h3 := mvS_flip (mvS_val hvs hm) h2
      refine ⟨!d, m, ?_, h3⟩
      rw [ed]
      unfold sgn
      cases d1 <;> simp <;> omega
    · obtain ⟨m, rfl⟩ : ∃ m, k = n + m := ⟨k - n, by omega⟩
      have h2 := mvG_cut hf hm
      refine ⟨d, m, ?_, h2⟩
      rw [ed]
      unfold sgn
      cases d1 <;> simp <;> omega
/-- with the visits -/
abbrev aSV : Type := aS × (Nat → Int32)
noncomputable def fD (d : Bool) (q : aQ) (cnt : Nat) (p : aSV) : aSV := (gD d q cnt p.1, if d = true then vB (aP p.1) p.2 cnt else vL (aBPl q p.1 cnt) p.2 cnt cnt)
abbrev mvV (d : Bool) (q : aQ) (cnt : Nat) : Nat → aSV → aSV → Prop := mvG (fun p => okD d q cnt p.1) (fD d q cnt)
theorem mvV_S {d : Bool} {q : aQ} {cnt : Nat} : ∀ {n : Nat} {p r : aSV}, mvV d q cnt n p r → mvS d q cnt n p.1 r.1
  | 0, p, r, h => by
    cases h
    exact rfl
  | n + 1, p, r, h => ⟨h.1, mvV_S h.2⟩
