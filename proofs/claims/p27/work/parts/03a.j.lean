/-! ===== THE J LAYER: a world of numbered cells, one memory of ints (cell, place), references that don't move; one operation an instruction, each sound over the machine ===== -/
abbrev jF : Type := Option (Option Nat)
abbrev jK : Type := (Nat × List jF) ⊕ ((Nat × Nat) ⊕ (Nat × List (Option Nat)))
abbrev jM : Type := Nat → Nat → Int32
abbrev jL : Type := List (Option Value)
abbrev jN : Type := jL → List Value → List jK → jM → Nat → Nat → Prop
abbrev jGt : Type := Nat → jN
abbrev jPost : Type := Option Value → List jK → jM → Prop
abbrev jO : Type := jGt → jPost → jN → jN
abbrev jS : Type := List (jO × Nat)
abbrev jT : Type := List Value → List jK → jM → jPost → Prop
/-- memory: a row, a place -/
def upr (h : jM) (c : Nat) (f : Nat → Int32) : jM := fun a => if a = c then f else h a
def up2 (h : jM) (c k : Nat) (v : Int32) : jM := upr h c (upd (h c) k v)
/-- locals: by place -/
def jg : jL → Nat → Option Value
  | [], _ => none
  | o :: _, 0 => o
  | _ :: r, n + 1 => jg r n
def js : jL → Nat → Option Value → jL
  | [], _, _ => []
  | _ :: r, 0, o => o :: r
  | a :: r, n + 1, o => a :: js r n o
def jkill (L : jL) (i : Nat) : jL := match jg L i with
  | some (.long _) => js L i none
  | some (.double _) => js L i none
  | _ => L
def jkp (L : jL) : Nat → jL
  | 0 => L
  | j + 1 => jkill L j
theorem jg_js : ∀ (L : jL) (i j : Nat) (o : Option Value) (v : Value), jg (js L i o) j = some v → (j = i ∧ o = some v) ∨ (j ≠ i ∧ jg L j = some v)
  | [], i, j, o, v, h => by simp [js, jg] at h
  | a :: r, 0, 0, o, v, h => Or.inl ⟨rfl, by simpa [js, jg] using h⟩
  | a :: r, 0, j + 1, o, v, h => Or.inr ⟨by omega, by simpa [js, jg] using h⟩
  | a :: r, i + 1, 0, o, v, h => Or.inr ⟨by omega, by simpa [js, jg] using h⟩
  | a :: r, i + 1, j + 1, o, v, h => by
    rcases jg_js r i j o v (by simpa [js, jg] using h) with ⟨h1, h2⟩ | ⟨h1, h2⟩
    · exact Or.inl ⟨by omega, h2⟩
    · exact Or.inr ⟨by omega, by simpa [jg] using h2⟩
theorem jg_kill (L : jL) (i j : Nat) (v : Value) (h : jg (jkill L i) j = some v) : jg L j = some v ∧ ¬ (j = i ∧ v.category = 2) := by
  unfold jkill at h
  split at h
  · rename_i x hx
    rcases jg_js _ _ _ _ _ h with ⟨-, h2⟩ | ⟨h1, h2⟩
    · cases h2
    · exact ⟨h2, fun q => h1 q.1⟩
  · rename_i x hx
    rcases jg_js _ _ _ _ _ h with ⟨-, h2⟩ | ⟨h1, h2⟩
    · cases h2
    · exact ⟨h2, fun q => h1 q.1⟩
  · rename_i h1 h2
    refine ⟨h, fun q => ?_⟩
    obtain ⟨rfl, q2⟩ := q
    cases v with
    | long x => exact h1 x h
    | double x => exact h2 x h
    | _ => simp [Value.category] at q2
theorem jg_kp (L : jL) (i j : Nat) (v : Value) (h : jg (jkp L i) j = some v) : jg L j = some v ∧ ¬ (j + 1 = i ∧ v.category = 2) := by
  cases i with
  | zero => exact ⟨h, fun q => by omega⟩
  | succ i =>
    obtain ⟨h1, h2⟩ := jg_kill L i j v h
    exact ⟨h1, fun q => h2 ⟨by omega, q.2⟩⟩
/-- from numbers to addresses -/
def jv (ad : Nat → Nat) (v : Value) : Value := match v with
  | .ref i => .ref (ad i)
  | w => w
theorem jv_cat (ad : Nat → Nat) (v : Value) : (jv ad v).category = v.category := by cases v <;> rfl
def jasc (ad : Nat → Nat) (L : jL) : List (Nat × Value) := (List.range L.length).filterMap (fun i => (jg L i).map (fun v => (i, jv ad v)))
theorem jg_lt : ∀ (L : jL) (i : Nat) (v : Value), jg L i = some v → i < L.length
  | [], i, v, h => by simp [jg] at h
  | a :: r, 0, v, h => by simp
  | a :: r, i + 1, v, h => by
    have := jg_lt r i v (by simpa [jg] using h)
    simp; omega
theorem jasc_mem (ad : Nat → Nat) (L : jL) (i : Nat) (w : Value) : (i, w) ∈ jasc ad L ↔ ∃ v, jg L i = some v ∧ w = jv ad v := by
  unfold jasc
  rw [List.mem_filterMap]
  constructor
  · rintro ⟨j, -, hj⟩
    cases hg : jg L j with
    | none => rw [hg] at hj; cases hj
    | some v =>
      rw [hg] at hj
      simp only [Option.map_some, Option.some.injEq, Prod.mk.injEq] at hj
      obtain ⟨rfl, rfl⟩ := hj
      exact ⟨v, hg, rfl⟩
  · rintro ⟨v, hv, rfl⟩
    exact ⟨i, List.mem_range.mpr (jg_lt L i v hv), by rw [hv]; rfl⟩
def jLh (ls : Array Slot) (nL : Nat) (ad : Nat → Nat) (L : jL) : Prop := lv_has ls nL (jasc ad L)
theorem jLh_at {ls : Array Slot} {nL : Nat} {ad : Nat → Nat} {L : jL} (h : jLh ls nL ad L) {i : Nat} {v : Value} (hv : jg L i = some v) : ls[i]? = some (.val (jv ad v)) :=
  h.2.2 (i, jv ad v) ((jasc_mem ad L i _).mpr ⟨v, hv, rfl⟩)
theorem jLh_st {ls : Array Slot} {nL : Nat} {ad : Nat → Nat} {L : jL} {i : Nat} {v : Value} (h : lv_has ls nL ((i, jv ad v) :: (jasc ad L).filter (fun q => !(q.1 == i) && !(q.1 + 1 == i && q.2.category == 2)))) : jLh ls nL ad (js (jkp L i) i (some v)) := by
  refine ⟨h.1, h.2.1, fun q hq => h.2.2 q ?_⟩
  obtain ⟨j, w⟩ := q
  obtain ⟨u, hu, rfl⟩ := (jasc_mem ad _ j w).mp hq
  rcases jg_js _ _ _ _ _ hu with ⟨rfl, h2⟩ | ⟨h1, h2⟩
  · cases h2
    exact List.mem_cons_self
  · obtain ⟨h3, h4⟩ := jg_kp _ _ _ _ h2
    refine List.mem_cons_of_mem _ (List.mem_filter.mpr ⟨(jasc_mem ad L j _).mpr ⟨u, h3, rfl⟩, ?_⟩)
    simp only [Bool.and_eq_true, Bool.not_eq_true', Bool.and_eq_false_iff, beq_eq_false_iff_ne, jv_cat]
    refine ⟨h1, ?_⟩
    by_cases h5 : j + 1 = i
    · exact Or.inr (fun q => h4 ⟨h5, q⟩)
    · exact Or.inl h5
theorem jLh_st2 {ls : Array Slot} {nL : Nat} {ad : Nat → Nat} {L : jL} {i : Nat} {v : Value} (h : lv_has ls nL ((i, jv ad v) :: (jasc ad L).filter (fun q => !(q.1 == i) && (!(q.1 == i + 1) && !(q.1 + 1 == i && q.2.category == 2))))) : jLh ls nL ad (js (js (jkp L i) i (some v)) (i + 1) none) := by
  refine ⟨h.1, h.2.1, fun q hq => h.2.2 q ?_⟩
  obtain ⟨j, w⟩ := q
  obtain ⟨u, hu, rfl⟩ := (jasc_mem ad _ j w).mp hq
  rcases jg_js _ _ _ _ _ hu with ⟨-, h2⟩ | ⟨h0, hu⟩
  · cases h2
  rcases jg_js _ _ _ _ _ hu with ⟨rfl, h2⟩ | ⟨h1, h2⟩
  · cases h2
    exact List.mem_cons_self
  · obtain ⟨h3, h4⟩ := jg_kp _ _ _ _ h2
    refine List.mem_cons_of_mem _ (List.mem_filter.mpr ⟨(jasc_mem ad L j _).mpr ⟨u, h3, rfl⟩, ?_⟩)
    simp only [Bool.and_eq_true, Bool.not_eq_true', Bool.and_eq_false_iff, beq_eq_false_iff_ne, jv_cat]
    refine ⟨h1, h0, ?_⟩
    by_cases h5 : j + 1 = i
    · exact Or.inr (fun q => h4 ⟨h5, q⟩)
    · exact Or.inl h5
/-- the world -/
def jfv (ad : Nat → Nat) (x : Int32) (f : jF) : Value := match f with
  | none => .int x
  | some none => .null
  | some (some t) => .ref (ad t)
def jfw (x : Int32) (f : jF) : Value := match f with
  | none => .int x
  | some none => .null
  | some (some t) => .ref t
theorem jfw_v (ad : Nat → Nat) (x : Int32) (f : jF) : jv ad (jfw x f) = jfv ad x f := by
  rcases f with _ | (_ | t) <;> rfl
def jfs (ad : Nat → Nat) (r : Nat → Int32) (fs : List jF) : List Value := fs.mapIdx (fun k f => jfv ad (r k) f)
def jcell (cid : Nat → ClassId) (ad : Nat → Nat) (r : Nat → Int32) (kd : jK) : va_E := match kd with
  | .inl (ci, fs) => .inr (ci, jfs ad r fs)
  | .inr (.inl (ti, n)) => .inl (cid ti, n, .inl r)
  | .inr (.inr (ti, ts)) => .inl (cid ti, ts.length, .inr (.inr (.inr (.inr (fun i => (ts[i]?.join).map ad)))))
def jw (cid : Nat → ClassId) (ad : Nat → Nat) (K : List jK) (h : jM) : va_W := K.mapIdx (fun i kd => (ad i, jcell cid ad (h i) kd))
theorem jw_get (cid : Nat → ClassId) (ad : Nat → Nat) (K : List jK) (h : jM) (i : Nat) : (jw cid ad K h)[i]? = (K[i]?).map (fun kd => (ad i, jcell cid ad (h i) kd)) := by
  unfold jw
  rw [List.getElem?_mapIdx]
theorem jw_at {cid : Nat → ClassId} {ad : Nat → Nat} {K : List jK} {h : jM} {i : Nat} {kd : jK} (hk : K[i]? = some kd) : (jw cid ad K h)[i]? = some (ad i, jcell cid ad (h i) kd) := by
  rw [jw_get, hk]; rfl
theorem jw_upr {cid : Nat → ClassId} {ad : Nat → Nat} {K : List jK} {h : jM} {c : Nat} {kd : jK} (hc : K[c]? = some kd) (r : Nat → Int32) : jw cid ad K (upr h c r) = (jw cid ad K h).set c (ad c, jcell cid ad r kd) := by
  apply List.ext_getElem?
  intro i
  have hlt : c < (jw cid ad K h).length := (List.getElem?_eq_some_iff.mp (jw_at (cid := cid) (ad := ad) (h := h) hc)).1
  by_cases hi : c = i
  · subst hi
    rw [List.getElem?_set_self hlt, jw_at hc]
    simp [upr]
  · rw [List.getElem?_set_ne hi, jw_get, jw_get]
    have : ¬ i = c := fun q => hi q.symm
    simp [upr, this]
theorem jw_setK {cid : Nat → ClassId} {ad : Nat → Nat} {K : List jK} {h : jM} {c : Nat} {kd kd' : jK} (hc : K[c]? = some kd) : jw cid ad (K.set c kd') h = (jw cid ad K h).set c (ad c, jcell cid ad (h c) kd') := by
  apply List.ext_getElem?
  intro i
  have hlt : c < (jw cid ad K h).length := (List.getElem?_eq_some_iff.mp (jw_at (cid := cid) (ad := ad) (h := h) hc)).1
  have hlt2 : c < K.length := (List.getElem?_eq_some_iff.mp hc).1
  by_cases hi : c = i
  · subst hi
    rw [List.getElem?_set_self hlt, jw_get, List.getElem?_set_self hlt2]
    rfl
  · rw [List.getElem?_set_ne hi, jw_get, jw_get, List.getElem?_set_ne hi]
theorem jw_len (cid : Nat → ClassId) (ad : Nat → Nat) (K : List jK) (h : jM) : (jw cid ad K h).length = K.length := by
  unfold jw; simp
/-- no reference of it is number n -/
def jfrF (n : Nat) (f : jF) : Bool := match f with
  | some (some t) => t != n
  | _ => true
def jfrK (n : Nat) (kd : jK) : Bool := match kd with
  | .inl (_, fs) => fs.all (jfrF n)
  | .inr (.inl _) => true
  | .inr (.inr (_, ts)) => ts.all (fun o => o != some n)
def jfrV (n : Nat) (v : Value) : Bool := match v with
  | .ref t => t != n
  | _ => true
def jfr (n : Nat) (L : jL) (st : List Value) (K : List jK) : Bool := L.all (fun o => match o with | some v => jfrV n v | none => true) && (st.all (jfrV n) && K.all (jfrK n))
def jadd (ad : Nat → Nat) (n q : Nat) : Nat → Nat := fun i => if i = n then q else ad i
theorem jv_add {ad : Nat → Nat} {n q : Nat} {v : Value} (h : jfrV n v = true) : jv (jadd ad n q) v = jv ad v := by
  cases v with
  | ref t =>
    simp only [jfrV, bne_iff_ne, ne_eq] at h
    simp [jv, jadd, h]
  | _ => rfl
theorem jcell_add {cid : Nat → ClassId} {ad : Nat → Nat} {n q : Nat} {r : Nat → Int32} {kd : jK} (h : jfrK n kd = true) : jcell cid (jadd ad n q) r kd = jcell cid ad r kd := by
  rcases kd with ⟨ci, fs⟩ | (⟨ti, k⟩ | ⟨ti, ts⟩)
  · simp only [jfrK, List.all_eq_true] at h
    show Sum.inr (ci, jfs (jadd ad n q) r fs) = Sum.inr (ci, jfs ad r fs)
    congr 2
    unfold jfs
    apply List.ext_getElem?
    intro i
    rw [List.getElem?_mapIdx, List.getElem?_mapIdx]
    cases hi : fs[i]? with
    | none => rfl
    | some f =>
      have hf := h f (List.mem_of_getElem? hi)
      rcases f with _ | (_ | t)
      · rfl
      · rfl
      · simp only [jfrF, bne_iff_ne, ne_eq] at hf
        simp [jfv, jadd, hf]
  · rfl
  · simp only [jfrK, List.all_eq_true] at h
    show (Sum.inl (cid ti, ts.length, _) : va_E) = Sum.inl (cid ti, ts.length, _)
    congr 7
    funext i
    cases hi : ts[i]? with
    | none => rfl
    | some o =>
      have hf := h o (List.mem_of_getElem? hi)
      cases o with
      | none => rfl
      | some t =>
        have ht : ¬ t = n := fun e => by subst e; simp at hf
        simp [jadd, ht]
theorem jw_push {cid : Nat → ClassId} {ad : Nat → Nat} {K : List jK} {h : jM} {q : Nat} {r : Nat → Int32} {kd : jK} (hK : K.all (jfrK K.length) = true) (hkd : jfrK K.length kd = true) : jw cid (jadd ad K.length q) (K ++ [kd]) (upr h K.length r) = jw cid ad K h ++ [(q, jcell cid ad r kd)] := by
  apply List.ext_getElem?
  intro i
  rw [jw_get]
  rcases Nat.lt_trichotomy i K.length with hi | hi | hi
  · rw [List.getElem?_append_left hi, List.getElem?_append_left (by rw [jw_len]; exact hi), jw_get]
    have hne : ¬ i = K.length := by omega
    cases hk : K[i]? with
    | none => rfl
    | some kd2 =>
      have h2 := List.all_eq_true.mp hK kd2 (List.mem_of_getElem? hk)
      simp only [Option.map_some, Option.some.injEq]
      rw [jcell_add h2]
      simp [jadd, upr, hne]
  · subst hi
    rw [List.getElem?_append_right (Nat.le_refl _), List.getElem?_append_right (by rw [jw_len]; exact Nat.le_refl _), jw_len]
    simp only [Nat.sub_self, List.getElem?_cons_zero, Option.map_some, Option.some.injEq]
    rw [jcell_add hkd]
    simp [jadd, upr]
  · rw [List.getElem?_eq_none (by simp; omega), List.getElem?_eq_none (by simp [jw_len]; omega)]
    rfl
theorem jLh_add {ls : Array Slot} {nL : Nat} {ad : Nat → Nat} {L : jL} {n q : Nat} (h : jLh ls nL ad L) (hf : L.all (fun o => match o with | some v => jfrV n v | none => true) = true) : jLh ls nL (jadd ad n q) L := by
  refine ⟨h.1, h.2.1, fun x hx => ?_⟩
  obtain ⟨j, w⟩ := x
  obtain ⟨u, hu, rfl⟩ := (jasc_mem _ _ j w).mp hx
  have hm : some u ∈ L := by
    clear h hf hx
    induction L generalizing j with
    | nil => simp [jg] at hu
    | cons a r ih =>
      cases j with
      | zero => simp only [jg] at hu; rw [hu]; exact List.mem_cons_self
      | succ j => exact List.mem_cons_of_mem _ (ih j (by simpa [jg] using hu))
  have h2 := List.all_eq_true.mp hf _ hm
  rw [jv_add h2]
  exact jLh_at h hu
theorem jst_add {ad : Nat → Nat} {n q : Nat} {st : List Value} (hf : st.all (jfrV n) = true) : st.map (jv (jadd ad n q)) = st.map (jv ad) := by
  apply List.map_congr_left
  intro v hv
  exact jv_add (List.all_eq_true.mp hf v hv)
