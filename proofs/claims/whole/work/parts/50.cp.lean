/-! ===== the coupling: the class's cells of one memory and the reference's of another show the same ===== -/
def pT (td : Int32) (tp : Nat → Int32) (td2 : Int32) (tp2 : Nat → Int32) : Prop := td2 = td ∧ (0 ≤ td.toInt ∧ td.toInt ≤ 12) ∧ tp2 = tp
def pE (k : Nat) (t : Int32) (a b c d : Nat → Int32) (t2 : Int32) (a2 b2 c2 d2 : Nat → Int32) : Prop := t2 = t ∧ (0 ≤ t.toInt ∧ t.toInt ≤ 13000 * (k : Int)) ∧ a2 = a ∧ b2 = b ∧ c2 = c ∧ d2 = d
def pM (tk sp tm cn x y d r : Int32) (cells trod : Nat → Int32) (hm ic wb mt mx my mh mr : Int32) (met mkd : Nat → Int32) : Prop := hm = tk ∧ (sp = 0 ↔ ic = 0 ∧ wb = 0) ∧ mt = tm ∧ (mx = x ∧ my = y ∧ mh = d ∧ mr = r) ∧ mkd = cells ∧ onF x y ∧ (¬ tk = 0 → (∀ P, P < 57600 → (met P = 0 ↔ trod P = 0)) ∧ cn = nI (jcnt (fun k => ¬ trod k = 0) 57600))
def pSi (L N : Int32) (I : Nat → Int32) (l n : Int32) (it : Nat → Int32) : Prop := l = L ∧ (L = -1 ∨ (0 ≤ L.toInt ∧ L.toInt ≤ 2)) ∧ (0 ≤ N.toInt ∧ N.toInt ≤ 60) ∧ (0 ≤ n.toInt ∧ n.toInt ≤ 60) ∧ (¬ L = -1 → n = N ∧ ∀ q, q < 60 → it q = I q)
def pS (L N : Nat → Int32) (I : Nat → Nat → Int32) (l n it : Nat → Int32) : Prop := ∀ i, i < 4 → pSi (L i) (N i) (I i) (l i) (n i) (fun q => it (60 * i + q))
def vL2 (h : jM) (i : Nat) : Int32 := if i < 4 then h (29 + 2 * i) 0 else 0
def vN2 (h : jM) (i : Nat) : Int32 := if i < 4 then h (29 + 2 * i) 1 else 0
def vI2 (h : jM) (i : Nat) : Nat → Int32 := if i < 4 then h (30 + 2 * i) else (fun _ => 0)
def pC (c m : jM) : Prop := ∃ cnt, cnt ≤ 6 ∧ c 0 7 = nI cnt ∧ m 37 8 = nI cnt ∧ aVal (vQ c) (vS c) cnt
def CPR (k : Nat) (c m : jM) : Prop := (mS m = vS c ∧ mQ m = vQ c ∧ m 39 = c 3) ∧ (∃ cnt, cnt ≤ 6 ∧ c 0 7 = nI cnt ∧ m 37 8 = nI cnt ∧ aVal (vQ c) (vS c) cnt) ∧ (c 1 0 = 0 ∨ c 1 0 = 1) ∧ m 37 4 = c 0 8 ∧ pT (c 4 2) (c 10) (m 37 7) (m 41) ∧ pE k (c 19 0) (c 20) (c 21) (c 22) (c 23) (m 37 14) (m 47) (m 48) (m 49) (m 50) ∧ pM (c 24 0) (c 24 1) (c 24 2) (c 24 3) (c 25 0) (c 25 1) (c 25 2) (c 25 3) (c 26) (c 27) (m 37 19) (m 37 20) (m 37 21) (m 37 24) (m 37 25) (m 37 26) (m 37 27) (m 37 28) (m 51) (m 52) ∧ pS (vL2 c) (vN2 c) (vI2 c) (m 53) (m 54) (m 55) ∧ onF (c 12 0) (c 12 1)
def CP (k : Nat) (h : jM) : Prop := CPR k h h
theorem pE_mono {k t a b c d t2 a2 b2 c2 d2} (h : pE k t a b c d t2 a2 b2 c2 d2) : pE (k + 1) t a b c d t2 a2 b2 c2 d2 := ⟨h.1, ⟨h.2.1.1, by have := h.2.1.2; omega⟩, h.2.2⟩
theorem CP_mono {k : Nat} {h : jM} (c : CP k h) : CP (k + 1) h := ⟨c.1, c.2.1, c.2.2.1, c.2.2.2.1, c.2.2.2.2.1, pE_mono c.2.2.2.2.2.1, c.2.2.2.2.2.2⟩
-- what a store changes of it
theorem ev_vS {h : jM} {c k : Nat} {v : Int32} (h1 : ¬ c = 2) (h2 : ¬ (12 ≤ c ∧ c < 18)) : vS (up2 h c k v) = vS h := vS_of (up2_n (fun z => h1 z.symm)) (fun a ha => up2_n (fun z => h2 (z ▸ ha)))
theorem ev_vSr {h : jM} {c : Nat} {f : Nat → Int32} (h1 : ¬ c = 2) (h2 : ¬ (12 ≤ c ∧ c < 18)) : vS (upr h c f) = vS h := vS_of (upr_n (fun z => h1 z.symm)) (fun a ha => upr_n (fun z => h2 (z ▸ ha)))
theorem ev_vQ {h : jM} {c k : Nat} {v : Int32} (h1 : ¬ c = 1) (h2 : ¬ (6 ≤ c ∧ c < 10)) (h3 : ¬ (12 ≤ c ∧ c < 18)) : vQ (up2 h c k v) = vQ h := vQ_of (up2_n (fun z => h1 z.symm)) (fun a ha => up2_n (fun z => h2 (z ▸ ha))) (fun a ha => up2_n (fun z => h3 (z ▸ ha)))
theorem ev_vQr {h : jM} {c : Nat} {f : Nat → Int32} (h1 : ¬ c = 1) (h2 : ¬ (6 ≤ c ∧ c < 10)) (h3 : ¬ (12 ≤ c ∧ c < 18)) : vQ (upr h c f) = vQ h := vQ_of (upr_n (fun z => h1 z.symm)) (fun a ha => upr_n (fun z => h2 (z ▸ ha))) (fun a ha => upr_n (fun z => h3 (z ▸ ha)))
theorem ev_mS {h : jM} {c k : Nat} {v : Int32} (h1 : ¬ c = 38) (h2 : ¬ c = 42) (h3 : ¬ c = 43) (h4 : ¬ c = 44) : mS (up2 h c k v) = mS h := mS_of2 (up2_n (fun z => h1 z.symm)) (up2_n (fun z => h2 z.symm)) (up2_n (fun z => h3 z.symm)) (up2_n (fun z => h4 z.symm))
theorem ev_mSr {h : jM} {c : Nat} {f : Nat → Int32} (h1 : ¬ c = 38) (h2 : ¬ c = 42) (h3 : ¬ c = 43) (h4 : ¬ c = 44) : mS (upr h c f) = mS h := mS_of2 (upr_n (fun z => h1 z.symm)) (upr_n (fun z => h2 z.symm)) (upr_n (fun z => h3 z.symm)) (upr_n (fun z => h4 z.symm))
theorem ev_mQ {h : jM} {c k : Nat} {v : Int32} (h1 : ¬ c = 37) (h2 : ¬ c = 40) (h3 : ¬ c = 45) : mQ (up2 h c k v) = mQ h := mQ_of2 (congrFun (up2_n (fun z => h1 z.symm)) 0) (congrFun (up2_n (fun z => h1 z.symm)) 1) (up2_n (fun z => h2 z.symm)) (up2_n (fun z => h3 z.symm))
theorem ev_mQr {h : jM} {c : Nat} {f : Nat → Int32} (h1 : ¬ c = 37) (h2 : ¬ c = 40) (h3 : ¬ c = 45) : mQ (upr h c f) = mQ h := mQ_of2 (congrFun (upr_n (fun z => h1 z.symm)) 0) (congrFun (upr_n (fun z => h1 z.symm)) 1) (upr_n (fun z => h2 z.symm)) (upr_n (fun z => h3 z.symm))
theorem ev_mQ7 {h : jM} {k : Nat} {v : Int32} (h1 : ¬ k = 0) (h2 : ¬ k = 1) : mQ (up2 h 37 k v) = mQ h := mQ_of2 (by rw [up2_s, upd_n (fun z => h1 z.symm)]) (by rw [up2_s, upd_n (fun z => h2 z.symm)]) (up2_n (by decide)) (up2_n (by decide))
theorem ev_of {g h : jM} (hh : ∀ a, 29 ≤ a ∧ a < 37 → g a = h a) : vL2 g = vL2 h ∧ vN2 g = vN2 h ∧ vI2 g = vI2 h := by
  refine ⟨?_, ?_, ?_⟩
  · funext i; unfold vL2
    by_cases hi : i < 4
    · rw [if_pos hi, if_pos hi, hh _ (by omega)]
    · rw [if_neg hi, if_neg hi]
  · funext i; unfold vN2
    by_cases hi : i < 4
    · rw [if_pos hi, if_pos hi, hh _ (by omega)]
    · rw [if_neg hi, if_neg hi]
  · funext i; unfold vI2
    by_cases hi : i < 4
    · rw [if_pos hi, if_pos hi, hh _ (by omega)]
    · rw [if_neg hi, if_neg hi]
theorem ev_vL {h : jM} {c k : Nat} {v : Int32} (h1 : ¬ (29 ≤ c ∧ c < 37)) : vL2 (up2 h c k v) = vL2 h := (ev_of (g := up2 h c k v) (h := h) (fun a ha => up2_n (fun z => h1 (z ▸ ha)))).1
theorem ev_vN {h : jM} {c k : Nat} {v : Int32} (h1 : ¬ (29 ≤ c ∧ c < 37)) : vN2 (up2 h c k v) = vN2 h := (ev_of (g := up2 h c k v) (h := h) (fun a ha => up2_n (fun z => h1 (z ▸ ha)))).2.1
theorem ev_vI {h : jM} {c k : Nat} {v : Int32} (h1 : ¬ (29 ≤ c ∧ c < 37)) : vI2 (up2 h c k v) = vI2 h := (ev_of (g := up2 h c k v) (h := h) (fun a ha => up2_n (fun z => h1 (z ▸ ha)))).2.2
theorem ev_vLr {h : jM} {c : Nat} {f : Nat → Int32} (h1 : ¬ (29 ≤ c ∧ c < 37)) : vL2 (upr h c f) = vL2 h := (ev_of (g := upr h c f) (h := h) (fun a ha => upr_n (fun z => h1 (z ▸ ha)))).1
theorem ev_vNr {h : jM} {c : Nat} {f : Nat → Int32} (h1 : ¬ (29 ≤ c ∧ c < 37)) : vN2 (upr h c f) = vN2 h := (ev_of (g := upr h c f) (h := h) (fun a ha => upr_n (fun z => h1 (z ▸ ha)))).2.1
theorem ev_vIr {h : jM} {c : Nat} {f : Nat → Int32} (h1 : ¬ (29 ≤ c ∧ c < 37)) : vI2 (upr h c f) = vI2 h := (ev_of (g := upr h c f) (h := h) (fun a ha => upr_n (fun z => h1 (z ▸ ha)))).2.2
-- only the class's cells count of the first memory, the reference's of the second
theorem CPR_of {k : Nat} {c m c2 m2 : jM} (h : CPR k c m) (hc : ∀ a, a < 37 → c2 a = c a) (hm : ∀ a, 37 ≤ a → a < 57 → m2 a = m a) : CPR k c2 m2 := by
  have e1 : vS c2 = vS c := vS_of (hc 2 (by decide)) (fun a ha => hc a (by omega))
  have e2 : vQ c2 = vQ c := vQ_of (hc 1 (by decide)) (fun a ha => hc a (by omega)) (fun a ha => hc a (by omega))
  have e3 : mS m2 = mS m := mS_of2 (hm 38 (by decide) (by decide)) (hm 42 (by decide) (by decide)) (hm 43 (by decide) (by decide)) (hm 44 (by decide) (by decide))
  have e4 : mQ m2 = mQ m := mQ_of2 (congrFun (hm 37 (by decide) (by decide)) 0) (congrFun (hm 37 (by decide) (by decide)) 1) (hm 40 (by decide) (by decide)) (hm 45 (by decide) (by decide))
  obtain ⟨e5, e6, e7⟩ := ev_of (g := c2) (h := c) (fun a ha => hc a (by omega))
  unfold CPR
  rw [e1, e2, e3, e4, e5, e6, e7, hc 3 (by decide), hc 0 (by decide), hc 1 (by decide), hc 4 (by decide), hc 10 (by decide), hc 19 (by decide), hc 20 (by decide), hc 21 (by decide), hc 22 (by decide), hc 23 (by decide), hc 24 (by decide), hc 25 (by decide), hc 26 (by decide), hc 27 (by decide), hc 12 (by decide), hm 37 (by decide) (by decide), hm 39 (by decide) (by decide), hm 41 (by decide) (by decide), hm 47 (by decide) (by decide), hm 48 (by decide) (by decide), hm 49 (by decide) (by decide), hm 50 (by decide) (by decide), hm 51 (by decide) (by decide), hm 52 (by decide) (by decide), hm 53 (by decide) (by decide), hm 54 (by decide) (by decide), hm 55 (by decide) (by decide)]
  exact h
theorem CP_kind {k : Nat} {c m : jM} (h : CPR k c m) : m 37 0 = c 1 0 ∧ m 37 1 = c 1 1 := ⟨congrArg (fun q : aQ => q.1) h.1.2.1, congrArg (fun q : aQ => q.2.1) h.1.2.1⟩
theorem CP_col {k : Nat} {c m : jM} (h : CPR k c m) : m 38 = c 2 := congrArg (fun q : aS => q.1) h.1.1
theorem CP_ant {k : Nat} {c m : jM} (h : CPR k c m) {i : Nat} (hi : i < 6) : m 42 i = c (12 + i) 0 ∧ m 43 i = c (12 + i) 1 ∧ m 44 i = c (12 + i) 2 ∧ m 45 i = c (12 + i) 3 := by
  have e1 : cut6 (m 42) = vX c 0 := congrArg (fun q : aS => q.2.1) h.1.1
  have e2 : cut6 (m 43) = vX c 1 := congrArg (fun q : aS => q.2.2.1) h.1.1
  have e3 : cut6 (m 44) = vX c 2 := congrArg (fun q : aS => q.2.2.2) h.1.1
  have e4 : cut6 (m 45) = vX c 3 := congrArg (fun q : aQ => q.2.2.2) h.1.2.1
  have a1 := congrFun e1 i
  have a2 := congrFun e2 i
  have a3 := congrFun e3 i
  have a4 := congrFun e4 i
  rw [cut6_at _ hi, vX_at _ _ hi] at a1 a2 a3 a4
  exact ⟨a1, a2, a3, a4⟩
theorem CP_dirs {k : Nat} {c m : jM} (h : CPR k c m) : jdM m = jdirs c ∧ jdirs c = nI (aDn (c 1 0)) := by
  have e := (CP_kind h).1
  unfold jdM jdirs aDn
  rw [e]
  rcases h.2.2.1 with z | z
  · rw [z]; exact ⟨rfl, rfl⟩
  · rw [z]; exact ⟨rfl, rfl⟩
