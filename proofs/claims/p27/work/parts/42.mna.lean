/-! ===== new int[4][12] in layer J ===== -/
def jmK (n : Nat) : List jK := [.inr (.inr (4, [some (n + 1), some (n + 2), some (n + 3), some (n + 4)])), .inr (.inl (0, 12)), .inr (.inl (0, 12)), .inr (.inl (0, 12)), .inr (.inl (0, 12))]
def jmZ (h : jM) (n : Nat) : jM := fun a => if n ≤ a ∧ a < n + 5 then (fun _ => 0) else h a
def jmA (ad : Nat → Nat) (n q : Nat) : Nat → Nat := fun i => if n ≤ i ∧ i < n + 5 then q + (i - n) else ad i
def jmW (cid : Nat → ClassId) (ad : Nat → Nat) (n q : Nat) : va_W := (jmK n).mapIdx (fun i kd => (q + i, jcell cid (jmA ad n q) (fun _ => 0) kd))
theorem jcell_agree {cid : Nat → ClassId} {ad ad' : Nat → Nat} {n : Nat} {r : Nat → Int32} {kd : jK} (hl : ∀ t, t < n → ad' t = ad t) (h : jloK n kd = true) : jcell cid ad' r kd = jcell cid ad r kd := by
  rcases kd with ⟨ci, fs⟩ | (⟨ti, k⟩ | ⟨ti, ts⟩)
  · simp only [jloK, List.all_eq_true] at h
    show Sum.inr (ci, jfs ad' r fs) = Sum.inr (ci, jfs ad r fs)
    congr 2
    unfold jfs
    apply List.ext_getElem?
    intro i
    rw [List.getElem?_mapIdx, List.getElem?_mapIdx]
    cases hi : fs[i]? with
    | none => rfl
    | some f =>
      have hf := h f (List.mem_of_getElem? hi)
      rcases f with _ | (_ | t)
      · rfl
      · rfl
      · simp only [jloF, decide_eq_true_eq] at hf
        simp [jfv, hl t hf]
  · rfl
  · simp only [jloK, List.all_eq_true] at h
    show (Sum.inl (cid ti, ts.length, _) : va_E) = Sum.inl (cid ti, ts.length, _)
    congr 7
    funext i
    cases hi : ts[i]? with
    | none => rfl
    | some o =>
      have hf := h o (List.mem_of_getElem? hi)
      cases o with
      | none => rfl
      | some t =>
        simp only [decide_eq_true_eq] at hf
        simp [hl t hf]
theorem jw_mna {cid : Nat → ClassId} {ad : Nat → Nat} {K : List jK} {h : jM} {q : Nat} (hK : K.all (jloK K.length) = true) : jw cid (jmA ad K.length q) (K ++ jmK K.length) (jmZ h K.length) = jw cid ad K h ++ jmW cid ad K.length q := by
  apply List.ext_getElem?
  intro i
  rw [jw_get]
  rcases Nat.lt_or_ge i K.length with hi | hi
  · rw [List.getElem?_append_left hi, List.getElem?_append_left (by rw [jw_len]; exact hi), jw_get]
    have hne : ¬ (K.length ≤ i ∧ i < K.length + 5) := by omega
    cases hk : K[i]? with
    | none => rfl
    | some kd2 =>
      have h2 := List.all_eq_true.mp hK kd2 (List.mem_of_getElem? hk)
      simp only [Option.map_some, Option.some.injEq]
      rw [jcell_agree (ad := ad) (ad' := jmA ad K.length q) (n := K.length) (fun t ht => if_neg (by omega)) h2]
      show ((if K.length ≤ i ∧ i < K.length + 5 then _ else ad i), jcell cid ad ((if K.length ≤ i ∧ i < K.length + 5 then (fun _ => 0) else h i)) kd2) = _
      rw [if_neg hne, if_neg hne]
  · rw [List.getElem?_append_right hi, List.getElem?_append_right (by rw [jw_len]; exact hi), jw_len]
    unfold jmW
    rw [List.getElem?_mapIdx]
    cases hk : (jmK K.length)[i - K.length]? with
    | none => rfl
    | some kd =>
      have hl : i - K.length < 5 := (List.getElem?_eq_some_iff.mp hk).1
      have hin : K.length ≤ i ∧ i < K.length + 5 := by omega
      simp only [Option.map_some, Option.some.injEq]
      show ((if K.length ≤ i ∧ i < K.length + 5 then q + (i - K.length) else ad i), jcell cid (jmA ad K.length q) ((if K.length ≤ i ∧ i < K.length + 5 then (fun _ => 0) else h i)) kd) = _
      rw [if_pos hin, if_pos hin]
theorem jD_app {A : Nat → Prop} {ws : va_W} {z : Nat} {w2 : va_W} (hD : va_D A ws) (hz : ∀ (k : Nat) (x : Nat × va_E), ws[k]? = some x → x.1 < z) (h2 : ∀ (k : Nat) (x : Nat × va_E), w2[k]? = some x → x.1 = z + k) (hA : ∀ q, z ≤ q → A q) : va_D A (ws ++ w2) := by
  refine ⟨fun i j x y hx hy hxy => ?_, fun k x hx => ?_⟩
  · rcases Nat.lt_or_ge i ws.length with hi | hi <;> rcases Nat.lt_or_ge j ws.length with hj | hj
    · rw [List.getElem?_append_left hi] at hx
      rw [List.getElem?_append_left hj] at hy
      exact hD.1 i j x y hx hy hxy
    · rw [List.getElem?_append_left hi] at hx
      rw [List.getElem?_append_right hj] at hy
      have a1 := hz _ _ hx
      have a2 := h2 _ _ hy
      omega
    · rw [List.getElem?_append_right hi] at hx
      rw [List.getElem?_append_left hj] at hy
      have a1 := hz _ _ hy
      have a2 := h2 _ _ hx
      omega
    · rw [List.getElem?_append_right hi] at hx
      rw [List.getElem?_append_right hj] at hy
      have a1 := h2 _ _ hx
      have a2 := h2 _ _ hy
      omega
  · rcases Nat.lt_or_ge k ws.length with hi | hi
    · rw [List.getElem?_append_left hi] at hx
      exact hD.2 k x hx
    · rw [List.getElem?_append_right hi] at hx
      rw [h2 _ _ hx]
      exact hA _ (by omega)
def o_mna (mc ms : Nat) : jO := fun _ _ nx L st K h ce sl => match st with
  | .int k :: .int n :: r => k = 12 ∧ n = 4 ∧ K.length + 5 ≤ 1000 ∧ jok K.length L r K = true ∧ ce + 5 ≤ mc ∧ sl + 52 ≤ ms ∧ nx L (.ref K.length :: r) (K ++ jmK K.length) (jmZ h K.length) (ce + 5) (sl + 52)
  | _ => False
theorem so_mna {Γ : jΓ} {Q : jPost} {cc : ByteArray} {own nm : String} {rt : Option FieldType} {ws : List Cond} {fr lo mc ms : Nat} (C : jC Γ cc own nm rt ws fr lo mc ms) {pc index : Nat} (hcl : Cond.classLink own index "[[I" ∈ ws) (harr : Cond.arrayClass .int ∈ ws) (hd : decode cc pc = .ok (.multianewarray index 2, 4)) : jSA Γ Q pc (o_mna mc ms) 4 := by
  obtain ⟨p, l, e, R, s, m, args, below, meth, c, nL, cl, D, cid, A, ad0, k0, Qf⟩ := Γ
  obtain ⟨hx, hb, hml, hown, hr, hnm, hts, hlocks, hK, hA, hZ, hfr, hlo, hmc, hms, hXt⟩ := C
  intro J nx hJ hn L st K h ce sl ho
  unfold o_mna at ho
  split at ho
  · rename_i k n r
    obtain ⟨rfl, rfl, a3, a4, a5, a6, ho⟩ := ho
    intro hk ad H locs ls h1 h2 h3 h4 h5
    simp only [jok, Bool.and_eq_true] at a4
    have hsz : ∀ (k : Nat) (x : Nat × va_E), (jw cid ad K h)[k]? = some x → x.1 < H.size := fun k x hx => (h2 k x hx).lt
    refine j_mna hx hb hown (hts _ hcl) hXt.2.2.2.2 (hts _ harr) (by rw [hmc]; exact a5) (by rw [hms]; exact a6) hd (fun H1 cA cB n1 n2 z1 o1 q1 q2 => ?_)
    have e4 : cA = cid 4 := by
      have e2 : s.vm.findClass "[[I" = some (cid 4) := (hK.2 4 _ rfl).2
      exact Option.some.inj (n1.symm.trans e2)
    have e0 : cB = cid 0 := by
      have e2 : s.vm.findClass "[I" = some (cid 0) := (hK.2 0 _ rfl).2
      exact Option.some.inj (n2.symm.trans e2)
    subst e4
    subst e0
    have hlen : (K ++ jmK K.length).length = K.length + 5 := by simp [jmK]
    have ew := jw_mna (cid := cid) (ad := ad) (h := h) (q := H.size) a4.2
    have g1 : va_P D cl (jw cid ad K h ++ jmW cid ad K.length H.size) H1 := by
      refine (h2.kept (fun k x hx => o1 x.1 (hsz k x hx))).app (fun k x hx => ?_)
      have aq : ∀ j, j < 5 → jmA ad K.length H.size (K.length + j) = H.size + j := fun j hj => by
        show (if K.length ≤ K.length + j ∧ K.length + j < K.length + 5 then H.size + (K.length + j - K.length) else _) = _
        rw [if_pos (by omega)]
        omega
      have hl : k < 5 := by
        have := (List.getElem?_eq_some_iff.mp hx).1
        simpa [jmW, jmK] using this
      have row : ∀ j, j < 4 → H1[H.size + (j + 1)]? = some (vp_cell (cid 0) (12, .inl (fun _ => 0))) := fun j hj => by
        have := q2 j hj
        rw [show H.size + 1 + j = H.size + (j + 1) by omega] at this
        exact this
      have : k = 0 ∨ k = 1 ∨ k = 2 ∨ k = 3 ∨ k = 4 := by omega
      rcases this with rfl | rfl | rfl | rfl | rfl
      · cases hx
        show H1[H.size + 0]? = some (vp_cell _ _)
        rw [vp_cell_q]
        refine Eq.trans q1 (congrArg some ?_)
        unfold jmO
        congr 1
        funext j
        by_cases hj : j < 4
        · rw [if_pos hj]
          have : j = 0 ∨ j = 1 ∨ j = 2 ∨ j = 3 := by omega
          rcases this with rfl | rfl | rfl | rfl
          · show Value.ref (H.size + 1 + 0) = Value.ref (jmA ad K.length H.size (K.length + 1)); rw [aq 1 (by omega)]
          · show Value.ref (H.size + 1 + 1) = Value.ref (jmA ad K.length H.size (K.length + 2)); rw [aq 2 (by omega)]
          · show Value.ref (H.size + 1 + 2) = Value.ref (jmA ad K.length H.size (K.length + 3)); rw [aq 3 (by omega)]
          · show Value.ref (H.size + 1 + 3) = Value.ref (jmA ad K.length H.size (K.length + 4)); rw [aq 4 (by omega)]
        · rw [if_neg hj, List.getElem?_eq_none (by simpa using hj)]
          rfl
      · cases hx; exact row 0 (by omega)
      · cases hx; exact row 1 (by omega)
      · cases hx; exact row 2 (by omega)
      · cases hx; exact row 3 (by omega)
    have g2 : va_D A (jw cid ad K h ++ jmW cid ad K.length H.size) := jD_app h3 hsz (fun k x hx => by
      unfold jmW at hx
      rw [List.getElem?_mapIdx] at hx
      cases hk : (jmK K.length)[k]? with
      | none => rw [hk] at hx; cases hx
      | some kd =>
        rw [hk] at hx
        cases hx
        rfl) (fun q hq => hA q (Nat.le_trans h4.1 hq))
    have g3 : va_S A s.heap H1 locs := ⟨Nat.le_trans h4.1 (by omega), fun x y1 y2 => (o1 x (Nat.lt_of_lt_of_le y1 h4.1)).trans (h4.2.1 x y1 y2), h4.2.2⟩
    have hmv : ∀ i, i < K.length ∨ K.length + 5 ≤ i → jmA ad K.length H.size i = ad i := fun i hi => if_neg (by omega)
    simp only [jloL, Bool.and_eq_true] at a4
    have h9 := hn _ _ _ _ _ _ ho ⟨by rw [hlen]; omega, by rw [hlen]; omega, by rw [hmc]; exact a5, by rw [hms]; exact a6⟩ (jmA ad K.length H.size) H1 locs ls (fun i hi => by
      rw [hlen] at hi
      rw [hmv i (by omega)]
      exact h1 i (by omega)) (by rw [ew]; exact g1) (by rw [ew]; exact g2) g3 (jLh_moved h5 hmv a3 a4.1.1)
    rw [List.map_cons, jst_moved hmv a3 a4.1.2] at h9
    have er : jv (jmA ad K.length H.size) (.ref K.length) = .ref H.size := by
      show Value.ref (if K.length ≤ K.length ∧ K.length < K.length + 5 then H.size + (K.length - K.length) else _) = _
      rw [if_pos (by omega), Nat.sub_self, Nat.add_zero]
    rw [er] at h9
    exact h9
  · exact ho.elim
