/-! ===== allocation: new cells at the end of the world ===== -/
def jlo (n : Nat) (v : Value) : Bool := match v with
  | .ref t => decide (t < n) || decide (1000 ≤ t)
  | _ => true
def jloL (n : Nat) (L : jL) (st : List Value) : Bool := L.all (fun o => match o with | some v => jlo n v | none => true) && st.all (jlo n)
def jloF (n : Nat) (f : jF) : Bool := match f with
  | some (some t) => decide (t < n)
  | _ => true
def jloK (n : Nat) (kd : jK) : Bool := match kd with
  | .inl (_, fs) => fs.all (jloF n)
  | .inr (.inl _) => true
  | .inr (.inr (_, ts)) => ts.all (fun o => match o with | some t => decide (t < n) | none => true)
def jok (n : Nat) (L : jL) (st : List Value) (K : List jK) : Bool := jloL n L st && K.all (jloK n)
theorem jlo_n {n i : Nat} {v : Value} (h : jlo n v = true) (h1 : n ≤ i) (h2 : i < 1000) : jfrV i v = true := by
  cases v with
  | ref t =>
    simp only [jlo, Bool.or_eq_true, decide_eq_true_eq] at h
    simp only [jfrV, bne_iff_ne, ne_eq]
    have h' : (show Nat from t) < n ∨ 1000 ≤ (show Nat from t) := h
    intro z
    have z' : (show Nat from t) = i := z
    omega
  | _ => rfl
theorem jloL_L {n i : Nat} {L : jL} {st : List Value} (h : jloL n L st = true) (h1 : n ≤ i) (h2 : i < 1000) : L.all (fun o => match o with | some v => jfrV i v | none => true) = true := by
  simp only [jloL, Bool.and_eq_true] at h
  rw [List.all_eq_true]
  intro o ho
  have := List.all_eq_true.mp h.1 o ho
  cases o with
  | none => rfl
  | some v => exact jlo_n this h1 h2
theorem jloL_S {n i : Nat} {L : jL} {st : List Value} (h : jloL n L st = true) (h1 : n ≤ i) (h2 : i < 1000) : st.all (jfrV i) = true := by
  simp only [jloL, Bool.and_eq_true] at h
  rw [List.all_eq_true]
  intro v hv
  exact jlo_n (List.all_eq_true.mp h.2 v hv) h1 h2
theorem jloK_n {n i : Nat} {kd : jK} (h : jloK n kd = true) (h1 : n ≤ i) : jfrK i kd = true := by
  rcases kd with ⟨ci, fs⟩ | (⟨ti, k⟩ | ⟨ti, ts⟩)
  · simp only [jloK, List.all_eq_true] at h
    simp only [jfrK, List.all_eq_true]
    intro f hf
    have := h f hf
    rcases f with _ | (_ | t)
    · rfl
    · rfl
    · simp only [jloF, decide_eq_true_eq] at this
      simp only [jfrF, bne_iff_ne, ne_eq]
      omega
  · rfl
  · simp only [jloK, List.all_eq_true] at h
    simp only [jfrK, List.all_eq_true]
    intro o ho
    have := h o ho
    cases o with
    | none => rfl
    | some t =>
      simp only [decide_eq_true_eq] at this
      simp only [bne_iff_ne, ne_eq, Option.some.injEq]
      omega
theorem jloK_all {n i : Nat} {K : List jK} (h : K.all (jloK n) = true) (h1 : n ≤ i) : K.all (jfrK i) = true := by
  rw [List.all_eq_true] at h ⊢
  exact fun kd hk => jloK_n (h kd hk) h1
section JNEW
variable {p : Program} {l : Launch} {e : Env} {R : Room} {s : State} {m : MethodId} {args : Array Value} {below : List Frame} {meth : Method} {c : Code} {Qf : State → Prop} {nL : Nat} {cl : List vw_C} {D : va_G} {cid : Nat → ClassId} {A : Nat → Prop} {ad0 : Nat → Nat} {k0 : Nat}
theorem j_push {L : jL} {r : List Value} {K : List jK} {h : jM} {kd : jK} {ce sl pc q : Nat} {ad : Nat → Nat} {H1 : Heap} {locs : List Loc} {ls : Array Slot}
    (hG : jG (p, l, e, R, s, m, args, below, meth, c, nL, cl, D, cid, A, ad0, k0, Qf) pc L (.ref K.length :: r) (K ++ [kd]) (upr h K.length (fun _ => 0)) ce sl) (hk : k0 ≤ K.length) (hK : K.length < 1000) (hok : jok K.length L r K = true) (hkd : jloK K.length kd = true) (hce : ce ≤ R.cells) (hsl : sl ≤ R.slots)
    (h1 : ∀ i, i < k0 ∨ K.length ≤ i → ad i = ad0 i) (g1 : va_P D cl (jw cid ad K h ++ [(q, jcell cid ad (fun _ => 0) kd)]) H1) (g2 : va_D A (jw cid ad K h ++ [(q, jcell cid ad (fun _ => 0) kd)])) (g3 : va_S A s.heap H1 locs) (h5 : jLh ls nL ad L) :
    W p l e R s m args below meth c H1 locs ce sl Qf (F0 m pc ls (.ref q :: r.map (jv ad))) := by
  simp only [jok, Bool.and_eq_true] at hok
  have ef := jw_push (cid := cid) (ad := ad) (K := K) (h := h) (q := q) (r := fun _ => 0) (kd := kd) (jloK_all hok.2 (Nat.le_refl _)) (jloK_n hkd (Nat.le_refl _))
  have hlen : (K ++ [kd]).length = K.length + 1 := by simp
  have h9 := hG ⟨by rw [hlen]; omega, by rw [hlen]; omega, hce, hsl⟩ (jadd ad K.length q) H1 locs ls (fun i hi => by
    rw [hlen] at hi
    have hne : ¬ i = K.length := by omega
    show (if i = K.length then q else ad i) = _
    rw [if_neg hne]
    exact h1 i (by omega)) (by rw [ef]; exact g1) (by rw [ef]; exact g2) g3 (jLh_add h5 (jloL_L hok.1 (Nat.le_refl _) hK))
  rw [List.map_cons, jst_add (jloL_S hok.1 (Nat.le_refl _) hK)] at h9
  have e : jv (jadd ad K.length q) (.ref K.length) = .ref q := by simp [jv, jadd]
  rw [e] at h9
  exact h9
end JNEW
/-- new T[n] of ints or booleans -/
def o_newa (mc ms ti : Nat) : jO := fun _ _ nx L st K h ce sl => match st with
  | .int n :: r => ¬ n < 0 ∧ n.toNatClampNeg ≤ 100000 ∧ K.length < 1000 ∧ jok K.length L r K = true ∧ ce + 1 ≤ mc ∧ sl + n.toNatClampNeg ≤ ms ∧ nx L (.ref K.length :: r) (K ++ [.inr (.inl (ti, n.toNatClampNeg))]) (upr h K.length (fun _ => 0)) (ce + 1) (sl + n.toNatClampNeg)
  | _ => False
theorem so_newa {Γ : jΓ} {Q : jPost} {cc : ByteArray} {own nm : String} {rt : Option FieldType} {ws : List Cond} {fr lo mc ms : Nat} (C : jC Γ cc own nm rt ws fr lo mc ms) {pc ti : Nat} {atype : ArrayType} {ty : FieldType} (hty : newarray.typeOf atype = ty) (ht : ∀ cid, (jTy cid)[ti]? = some (cid ti, ty)) (hra : ∀ U cA, va_RA U cA ty = (U.vm.findClass ("[" ++ ty.toString) = some cA)) (hcell : ∀ (cA : ClassId) (N : Nat), vp_cell cA (N, .inl (fun _ => 0)) = arrV cA N (fun _ => defaultValue ty)) (hb4 : componentBytes ty ≤ 4) (harr : Cond.arrayClass ty ∈ ws) (hd : decode cc pc = .ok (.newarray atype, 2)) : jSA Γ Q pc (o_newa mc ms ti) 2 := by
  obtain ⟨p, l, e, R, s, m, args, below, meth, c, nL, cl, D, cid, A, ad0, k0, Qf⟩ := Γ
  obtain ⟨hx, hb, hml, hown, hr, hnm, hts, hlocks, hK, hA, hZ, hfr, hlo, hmc, hms, hXt⟩ := C
  intro J nx hJ hn L st K h ce sl ho
  unfold o_newa at ho
  split at ho
  · rename_i n r
    obtain ⟨a1, a2, a3, a4, a5, a6, ho⟩ := ho
    intro hk ad H locs ls h1 h2 h3 h4 h5
    refine va_newa hx hb (atype := atype) (by rw [hty]; exact hts _ harr) hty hK h2 h3 h4 hA (a0 := (n.toNatClampNeg, .inl (fun _ => 0))) (fun cA => hcell cA _) a1 rfl (Nat.le_trans (Nat.mul_le_mul a2 hb4) (by decide)) (by rw [hmc]; exact a5) (by rw [hms]; exact a6) hd (fun q cA H1 gK g1 g2 g3 => ?_)
    have e1 := (gK.2 5 (cA, ty) rfl).2
    have e2 := (hK.2 ti _ (ht cid)).2
    rw [hra] at e1 e2
    have e3 : cA = cid ti := Option.some.inj (e1.symm.trans e2)
    subst e3
    exact j_push (hn _ _ _ _ _ _ ho) hk.1 a3 a4 rfl (by rw [hmc]; exact a5) (by rw [hms]; exact a6) h1 g1 g2 g3 h5
  · exact ho.elim
theorem so_newa0 {Γ : jΓ} {Q : jPost} {cc : ByteArray} {own nm : String} {rt : Option FieldType} {ws : List Cond} {fr lo mc ms : Nat} (C : jC Γ cc own nm rt ws fr lo mc ms) {pc : Nat} (harr : Cond.arrayClass .int ∈ ws) (hd : decode cc pc = .ok (.newarray .int, 2)) : jSA Γ Q pc (o_newa mc ms 0) 2 :=
  so_newa C (ty := .int) rfl (fun _ => rfl) (fun _ _ => rfl) (fun _ _ => rfl) (by decide) harr hd
/-- new C[n] -/
def o_newr (mc ms ti : Nat) : jO := fun _ _ nx L st K h ce sl => match st with
  | .int n :: r => ¬ n < 0 ∧ n.toNatClampNeg ≤ 100000 ∧ K.length < 1000 ∧ jok K.length L r K = true ∧ ce + 1 ≤ mc ∧ sl + n.toNatClampNeg ≤ ms ∧ nx L (.ref K.length :: r) (K ++ [.inr (.inr (ti, List.replicate n.toNatClampNeg none))]) (upr h K.length (fun _ => 0)) (ce + 1) (sl + n.toNatClampNeg)
  | _ => False
theorem jrep (ad : Nat → Nat) (n i : Nat) : (((List.replicate n (none : Option Nat))[i]?).join).map ad = none := by
  rw [List.getElem?_replicate]
  split <;> rfl
theorem so_newr {Γ : jΓ} {Q : jPost} {cc : ByteArray} {own nm : String} {rt : Option FieldType} {ws : List Cond} {fr lo mc ms : Nat} (C : jC Γ cc own nm rt ws fr lo mc ms) {pc ti index : Nat} {Cn : String} (ht : ∀ cid, (jTy cid)[ti]? = some (cid ti, .object Cn)) (hao : ∀ U, jXt U → va_AO Cn U) (hcl : Cond.classLink own index Cn ∈ ws) (hd : decode cc pc = .ok (.anewarray index, 3)) : jSA Γ Q pc (o_newr mc ms ti) 3 := by
  obtain ⟨p, l, e, R, s, m, args, below, meth, c, nL, cl, D, cid, A, ad0, k0, Qf⟩ := Γ
  obtain ⟨hx, hb, hml, hown, hr, hnm, hts, hlocks, hK, hA, hZ, hfr, hlo, hmc, hms, hXt⟩ := C
  intro J nx hJ hn L st K h ce sl ho
  unfold o_newr at ho
  split at ho
  · rename_i n r
    obtain ⟨a1, a2, a3, a4, a5, a6, ho⟩ := ho
    intro hk ad H locs ls h1 h2 h3 h4 h5
    refine va_newq hx hb hown (hts _ hcl) (hao _ hXt) hK h2 h3 h4 hA a1 rfl (Nat.le_trans (Nat.mul_le_mul a2 (Nat.le_refl 4)) (by decide)) (by rw [hmc]; exact a5) (by rw [hms]; exact a6) hd (fun q cA H1 gK g1 g2 g3 => ?_)
    obtain ⟨-, -, -, -, -, e1⟩ := (gK.2 5 (cA, .object Cn) rfl).2
    obtain ⟨-, -, -, -, -, e2⟩ := (hK.2 ti _ (ht cid)).2
    have e3 : cA = cid ti := Option.some.inj (e1.symm.trans e2)
    subst e3
    have ec : jcell cid ad (fun _ => 0) (.inr (.inr (ti, List.replicate n.toNatClampNeg none))) = .inl (cid ti, n.toNatClampNeg, .inr (.inr (.inr (.inr (fun _ => none))))) := by
      show (Sum.inl (cid ti, (List.replicate n.toNatClampNeg (none : Option Nat)).length, Sum.inr (Sum.inr (Sum.inr (Sum.inr (fun i => ((List.replicate n.toNatClampNeg (none : Option Nat))[i]?.join).map ad))))) : va_E) = _
      rw [List.length_replicate]
      congr 7
      funext i
      exact jrep ad _ i
    refine j_push (hn _ _ _ _ _ _ ho) hk.1 a3 a4 ?_ (by rw [hmc]; exact a5) (by rw [hms]; exact a6) h1 (by rw [ec]; exact g1) (by rw [ec]; exact g2) g3 h5
    simp only [jloK, List.all_eq_true]
    intro o h9
    rw [List.eq_of_mem_replicate h9]
  · exact ho.elim
theorem so_newr2 {Γ : jΓ} {Q : jPost} {cc : ByteArray} {own nm : String} {rt : Option FieldType} {ws : List Cond} {fr lo mc ms : Nat} (C : jC Γ cc own nm rt ws fr lo mc ms) {pc index : Nat} (hcl : Cond.classLink own index "AntFloor$Ant" ∈ ws) (hd : decode cc pc = .ok (.anewarray index, 3)) : jSA Γ Q pc (o_newr mc ms 2) 3 :=
  so_newr C (fun _ => rfl) (fun _ h => h.2.2.1) hcl hd
theorem so_newr3 {Γ : jΓ} {Q : jPost} {cc : ByteArray} {own nm : String} {rt : Option FieldType} {ws : List Cond} {fr lo mc ms : Nat} (C : jC Γ cc own nm rt ws fr lo mc ms) {pc index : Nat} (hcl : Cond.classLink own index "AntFloor$Sheet" ∈ ws) (hd : decode cc pc = .ok (.anewarray index, 3)) : jSA Γ Q pc (o_newr mc ms 3) 3 :=
  so_newr C (fun _ => rfl) (fun _ h => h.2.2.2.1) hcl hd
/-- new C -/
def jnul (f : jF) : Bool := match f with
  | some (some _) => false
  | _ => true
def jd0 (f : jF) : Value := match f with
  | none => .int 0
  | some _ => .null
theorem jfs_0 (ad : Nat → Nat) (fs : List jF) (h : fs.all jnul = true) : jfs ad (fun _ => 0) fs = fs.map jd0 := by
  rw [List.all_eq_true] at h
  unfold jfs
  apply List.ext_getElem?
  intro i
  rw [List.getElem?_mapIdx, List.getElem?_map]
  cases hi : fs[i]? with
  | none => rfl
  | some f =>
    have hf := h f (List.mem_of_getElem? hi)
    rcases f with _ | (_ | t)
    · rfl
    · rfl
    · cases hf
def o_new (mc ms ci : Nat) (fs : List jF) : jO := fun _ _ nx L st K h ce sl => K.length < 1000 ∧ jok K.length L st K = true ∧ ce + 1 ≤ mc ∧ sl + fs.length ≤ ms ∧ nx L (.ref K.length :: st) (K ++ [.inl (ci, fs)]) (upr h K.length (fun _ => 0)) (ce + 1) (sl + fs.length)
theorem so_new {Γ : jΓ} {Q : jPost} {cc : ByteArray} {own nm : String} {rt : Option FieldType} {ws : List Cond} {fr lo mc ms : Nat} (C : jC Γ cc own nm rt ws fr lo mc ms) {pc index ci N : Nat} {Cn : String} {T : u_T} {fs : List jF} (ty0 : Nat → FieldType) (hty : ∀ k, k < N → parseFieldDescriptor (T k).2.2.1 = some (ty0 k)) (hin : ∀ w ∈ u_ws Cn T N, w ∈ ws) (hc : Γ.2.2.2.2.2.2.2.2.2.2.2.1[ci]? = some (Cn, T, N)) (w1 : Cond.classLink own index Cn ∈ ws) (w2 : Cond.instantiable Cn N ∈ ws) (w3 : Cond.initialized Cn ∈ ws) (hN : fs.length = N) (hnul : fs.all jnul = true) (hfs : ∀ j, j < N → defaultValue (ty0 j) = vp_V (fs.map jd0) j) (hd : decode cc pc = .ok (.new index, 3)) : jSA Γ Q pc (o_new mc ms ci fs) 3 := by
  obtain ⟨p, l, e, R, s, m, args, below, meth, c, nL, cl, D, cid, A, ad0, k0, Qf⟩ := Γ
  obtain ⟨hx, hb, hml, hown, hr, hnm, hts, hlocks, hK, hA, hZ, hfr, hlo, hmc, hms, hXt⟩ := C
  intro J nx hJ hn L st K h ce sl ho
  obtain ⟨a3, a4, a5, a6, ho⟩ := ho
  intro hk ad H locs ls h1 h2 h3 h4 h5
  refine va_new (fs := fs.map jd0) hx hb hts hin ty0 hty hown (hts _ w1) (hts _ w2) (hts _ w3) hK h2 h3 h4 hA hc hfs (by rw [hmc]; exact a5) (by rw [hms, ← hN]; exact a6) hd (fun q H1 g1 g2 g3 => ?_)
  have ec : jcell cid ad (fun _ => 0) (.inl (ci, fs)) = .inr (ci, fs.map jd0) := by
    show (Sum.inr (ci, jfs ad (fun _ => 0) fs) : va_E) = _
    rw [jfs_0 ad fs hnul]
  rw [← hN]
  refine j_push (hn _ _ _ _ _ _ ho) hk.1 a3 a4 ?_ (by rw [hmc]; exact a5) (by rw [hms]; exact a6) h1 (by rw [ec]; exact g1) (by rw [ec]; exact g2) g3 h5
  simp only [jloK]
  rw [List.all_eq_true] at hnul ⊢
  intro f hf
  have := hnul f hf
  rcases f with _ | (_ | t)
  · rfl
  · rfl
  · cases this
/-- Object.<init> -/
def o_oinit : jO := fun _ _ nx L st K h ce sl => match st with
  | .ref _ :: r => jcs r ≤ 8 ∧ nx L r K h ce sl
  | _ => False
theorem so_oinit {Γ : jΓ} {Q : jPost} {cc : ByteArray} {own nm : String} {rt : Option FieldType} {ws : List Cond} {fr lo mc ms : Nat} (C : jC Γ cc own nm rt ws fr lo mc ms) {pc index : Nat} (w1 : Cond.methodLink own index Lib.objectInit ∈ ws) (w2 : Cond.instanceMethod Lib.objectInit ∈ ws) (w3 : Cond.code Lib.objectInit ⟨#[0xb1]⟩ 1 none ∈ ws) (hf1 : 1 ≤ fr) (hf2 : 20 ≤ lo) (hd : decode cc pc = .ok (.invokespecial index, 3)) : jSA Γ Q pc o_oinit 3 := by
  obtain ⟨p, l, e, R, s, m, args, below, meth, c, nL, cl, D, cid, A, ad0, k0, Qf⟩ := Γ
  obtain ⟨hx, hb, hml, hown, hr, hnm, hts, hlocks, hK, hA, hZ, hfr, hlo, hmc, hms, hXt⟩ := C
  intro J nx hJ hn L st K h ce sl ho
  unfold o_oinit at ho
  split at ho
  · rename_i a r
    obtain ⟨a1, ho⟩ := ho
    intro hk ad H locs ls h1 h2 h3 h4 h5
    have hcs : 2 * (F0 m pc ls (.ref (ad a) :: r.map (jv ad))).monitorRoom + ((r.map (jv ad)).map fun v => v.category).sum ≤ 8 := lv_room (by rw [jcs_eq]; exact a1)
    exact W.objInit hx hb hown (hts _ w1) (hts _ w2) (hts _ w3) rfl (by rw [hml]; exact h5.1) rfl hd (by rw [hfr]; exact hf1) (by rw [hlo]; exact Nat.le_trans (Nat.add_le_add_right hcs 12) hf2) (hn _ _ _ _ _ _ ho hk ad H locs ls h1 h2 h3 h4 h5)
  · exact ho.elim
/-- a field of references gets one -/
def jputr (K : List jK) (a ci k b : Nat) : Option (List jK) := match K[a]? with
  | some (.inl (c2, fs)) => if c2 = ci then (match fs[k]? with
    | some (some _) => some (K.set a (.inl (ci, fs.set k (some (some b)))))
    | _ => none) else none
  | _ => none
theorem jputr_eq {K K2 : List jK} {a ci k b : Nat} (h : jputr K a ci k b = some K2) : ∃ fs f, K[a]? = some (.inl (ci, fs)) ∧ fs[k]? = some (some f) ∧ K2 = K.set a (.inl (ci, fs.set k (some (some b)))) := by
  unfold jputr at h
  split at h
  · rename_i c2 fs hk
    split at h
    · rename_i hc
      subst hc
      split at h
      · rename_i f hf
        cases h
        exact ⟨fs, f, hk, hf, rfl⟩
      · cases h
    · cases h
  · cases h
theorem jfs_setR {ad : Nat → Nat} {r : Nat → Int32} {fs : List jF} {k b : Nat} : jfs ad r (fs.set k (some (some b))) = (jfs ad r fs).set k (.ref (ad b)) := by
  unfold jfs
  apply List.ext_getElem?
  intro i
  rw [List.getElem?_mapIdx]
  by_cases hi : k = i
  · subst hi
    by_cases hl : k < fs.length
    · rw [List.getElem?_set_self hl, List.getElem?_set_self (by rw [List.length_mapIdx]; exact hl)]
      rfl
    · rw [List.getElem?_eq_none (by rw [List.length_set]; omega), List.getElem?_eq_none (by rw [List.length_set, List.length_mapIdx]; omega)]
      rfl
  · rw [List.getElem?_set_ne hi, List.getElem?_set_ne hi, List.getElem?_mapIdx]
def o_putr (ci k : Nat) : jO := fun _ _ nx L st K h ce sl => match st with
  | .ref b :: .ref a :: r => match jputr K a ci k b with
    | some K2 => nx L r K2 h ce sl
    | none => False
  | _ => False
section JPUT
variable {p : Program} {l : Launch} {e : Env} {R : Room} {s : State} {m : MethodId} {args : Array Value} {below : List Frame} {meth : Method} {c : Code} {Qf : State → Prop} {nL : Nat} {cl : List vw_C} {D : va_G} {cid : Nat → ClassId} {A : Nat → Prop} {ad0 : Nat → Nat} {k0 : Nat}
theorem j_set {L : jL} {r : List Value} {K : List jK} {h : jM} {kd kd2 : jK} {ce sl pc a : Nat} {ad : Nat → Nat} {H1 : Heap} {locs : List Loc} {ls : Array Slot}
    (hG : jG (p, l, e, R, s, m, args, below, meth, c, nL, cl, D, cid, A, ad0, k0, Qf) pc L r (K.set a kd2) h ce sl) (hk : k0 ≤ K.length ∧ K.length ≤ 1000 ∧ ce ≤ R.cells ∧ sl ≤ R.slots) (h1 : ∀ i, i < k0 ∨ K.length ≤ i → ad i = ad0 i) (ha : K[a]? = some kd)
    (g1 : va_P D cl ((jw cid ad K h).set a (ad a, jcell cid ad (h a) kd2)) H1) (g2 : va_D A ((jw cid ad K h).set a (ad a, jcell cid ad (h a) kd2))) (g3 : va_S A s.heap H1 locs) (h5 : jLh ls nL ad L) :
    W p l e R s m args below meth c H1 locs ce sl Qf (F0 m pc ls (r.map (jv ad))) := by
  have ef := jw_setK (cid := cid) (ad := ad) (h := h) (kd' := kd2) ha
  have hl : (K.set a kd2).length = K.length := List.length_set
  exact hG ⟨by rw [hl]; exact hk.1, by rw [hl]; exact hk.2.1, hk.2.2⟩ ad H1 locs ls (by rw [hl]; exact h1) (by rw [ef]; exact g1) (by rw [ef]; exact g2) g3 h5
end JPUT
theorem so_putr {Γ : jΓ} {Q : jPost} {cc : ByteArray} {own nm : String} {rt : Option FieldType} {ws : List Cond} {fr lo mc ms : Nat} (C : jC Γ cc own nm rt ws fr lo mc ms) {pc : Nat} {Cn : String} {T : u_T} {N ci index : Nat} (ty0 : Nat → FieldType) (hty : ∀ k, k < N → parseFieldDescriptor (T k).2.2.1 = some (ty0 k)) (hnm2 : ∀ a, a < N → ∀ b, b < N → a ≠ b → (T a).2.1 ≠ (T b).2.1) (hin : ∀ w ∈ u_ws Cn T N, w ∈ ws) (hc : Γ.2.2.2.2.2.2.2.2.2.2.2.1[ci]? = some (Cn, T, N)) (k : Nat) (hk2 : k < N) (hlink : Cond.fieldLink own index (T k).1 (T k).2.1 (T k).2.2.1 ∈ ws) (hfin : (T k).2.2.2 = false) {ty : FieldType} (hdd : parseFieldDescriptor (T k).2.2.1 = some ty) (hnw : ∀ x : Nat, narrow ty (.ref x) = .ref x) (hft : ∀ x : Nat, fits ty (.ref x) = true) (hd : decode cc pc = .ok (.putfield index, 3)) : jSA Γ Q pc (o_putr ci k) 3 := by
  obtain ⟨p, l, e, R, s, m, args, below, meth, c, nL, cl, D, cid, A, ad0, k0, Qf⟩ := Γ
  obtain ⟨hx, hb, hml, hown, hr, hnm, hts, hlocks, hK, hA, hZ, hfr, hlo, hmc, hms, hXt⟩ := C
  intro J nx hJ hn L st K h ce sl ho
  unfold o_putr at ho
  split at ho
  · rename_i b a r
    split at ho
    · rename_i K2 hp
      obtain ⟨fs, f, e1, e2, rfl⟩ := jputr_eq hp
      intro hk ad H locs ls h1 h2 h3 h4 h5
      refine va_put hx hb hts hin ty0 hty hnm2 hown hK h2 h3 h4 a (jw_at e1) hc k hk2 (hts _ hlink) (fun _ q => q) hfin hdd (hnw (ad b)) (hft (ad b)) (List.getElem?_eq_some_iff.mp (jfs_at (ad := ad) (r := h a) e2)).1 hd (fun H1 locs1 g1 g2 g3 => ?_)
      have e3 : jcell cid ad (h a) (.inl (ci, fs.set k (some (some b)))) = .inr (ci, (jfs ad (h a) fs).set k (.ref (ad b))) := by
        show (Sum.inr (ci, jfs ad (h a) (fs.set k (some (some b)))) : va_E) = _
        rw [jfs_setR]
      exact j_set (hn _ _ _ _ _ _ ho) hk h1 e1 (by rw [e3]; exact g1) (by rw [e3]; exact g2) g3 h5
    · exact ho.elim
  · exact ho.elim
theorem so_putrF {Γ : jΓ} {Q : jPost} {cc : ByteArray} {own nm : String} {rt : Option FieldType} {ws : List Cond} {fr lo mc ms : Nat} (C : jC Γ cc own nm rt ws fr lo mc ms) {pc : Nat} {Cn : String} {T : u_T} {N ci index : Nat} (ty0 : Nat → FieldType) (hty : ∀ k, k < N → parseFieldDescriptor (T k).2.2.1 = some (ty0 k)) (hnm2 : ∀ a, a < N → ∀ b, b < N → a ≠ b → (T a).2.1 ≠ (T b).2.1) (hin : ∀ w ∈ u_ws Cn T N, w ∈ ws) (hc : Γ.2.2.2.2.2.2.2.2.2.2.2.1[ci]? = some (Cn, T, N)) (k : Nat) (hk2 : k < N) (hlink : Cond.fieldLink own index (T k).1 (T k).2.1 (T k).2.2.1 ∈ ws) (hfin : (T k).2.2.2 = true) (hnm3 : nm = "<init>") (hdecl : (T k).1 = own) {ty : FieldType} (hdd : parseFieldDescriptor (T k).2.2.1 = some ty) (hnw : ∀ x : Nat, narrow ty (.ref x) = .ref x) (hft : ∀ x : Nat, fits ty (.ref x) = true) (hd : decode cc pc = .ok (.putfield index, 3)) : jSA Γ Q pc (o_putr ci k) 3 := by
  obtain ⟨p, l, e, R, s, m, args, below, meth, c, nL, cl, D, cid, A, ad0, k0, Qf⟩ := Γ
  obtain ⟨hx, hb, hml, hown, hr, hnm, hts, hlocks, hK, hA, hZ, hfr, hlo, hmc, hms, hXt⟩ := C
  intro J nx hJ hn L st K h ce sl ho
  unfold o_putr at ho
  split at ho
  · rename_i b a r
    split at ho
    · rename_i K2 hp
      obtain ⟨fs, f, e1, e2, rfl⟩ := jputr_eq hp
      intro hk ad H locs ls h1 h2 h3 h4 h5
      refine va_putF hx hb hts hin ty0 hty hnm2 hown hK h2 h3 h4 a (jw_at e1) hc k hk2 (hts _ hlink) (fun _ q => q) hfin (hnm.trans hnm3) hdecl hdd (hnw (ad b)) (hft (ad b)) (List.getElem?_eq_some_iff.mp (jfs_at (ad := ad) (r := h a) e2)).1 hd (fun H1 locs1 g1 g2 g3 => ?_)
      have e3 : jcell cid ad (h a) (.inl (ci, fs.set k (some (some b)))) = .inr (ci, (jfs ad (h a) fs).set k (.ref (ad b))) := by
        show (Sum.inr (ci, jfs ad (h a) (fs.set k (some (some b)))) : va_E) = _
        rw [jfs_setR]
      exact j_set (hn _ _ _ _ _ _ ho) hk h1 e1 (by rw [e3]; exact g1) (by rw [e3]; exact g2) g3 h5
    · exact ho.elim
  · exact ho.elim
/-- a row of references gets one, of class ci -/
def jaast (K : List jK) (a ti ci b : Nat) (i : Int32) : Option (List jK) := match K[a]?, K[b]? with
  | some (.inr (.inr (t2, ts))), some (.inl (c2, _)) => if t2 = ti ∧ c2 = ci ∧ (¬ i < 0 ∧ i.toNatClampNeg < ts.length) then some (K.set a (.inr (.inr (ti, ts.set i.toNatClampNeg (some b))))) else none
  | _, _ => none
theorem jaast_eq {K K2 : List jK} {a ti ci b : Nat} {i : Int32} (h : jaast K a ti ci b i = some K2) : ∃ ts fs, K[a]? = some (.inr (.inr (ti, ts))) ∧ K[b]? = some (.inl (ci, fs)) ∧ vp_in i ts.length ∧ K2 = K.set a (.inr (.inr (ti, ts.set i.toNatClampNeg (some b)))) := by
  unfold jaast at h
  split at h
  · rename_i t2 ts c2 fs h1 h2
    split at h
    · rename_i hc
      obtain ⟨rfl, rfl, h3, h4⟩ := hc
      cases h
      exact ⟨ts, fs, h1, h2, fun q => q.elim h3 (fun z => absurd h4 (Nat.not_lt.mpr z)), rfl⟩
    · cases h
  · cases h
def o_aast (ti ci : Nat) : jO := fun _ _ nx L st K h ce sl => match st with
  | .ref b :: .int i :: .ref a :: r => match jaast K a ti ci b i with
    | some K2 => nx L r K2 h ce sl
    | none => False
  | _ => False
theorem so_aast {Γ : jΓ} {Q : jPost} {cc : ByteArray} {own nm : String} {rt : Option FieldType} {ws : List Cond} {fr lo mc ms : Nat} (C : jC Γ cc own nm rt ws fr lo mc ms) {pc ti ci N : Nat} {Cn : String} {T : u_T} (hc : Γ.2.2.2.2.2.2.2.2.2.2.2.1[ci]? = some (Cn, T, N)) (ht : ∀ cid, (jTy cid)[ti]? = some (cid ti, .object Cn)) (hd : decode cc pc = .ok (.aastore, 1)) : jSA Γ Q pc (o_aast ti ci) 1 := by
  obtain ⟨p, l, e, R, s, m, args, below, meth, c, nL, cl, D, cid, A, ad0, k0, Qf⟩ := Γ
  obtain ⟨hx, hb, hml, hown, hr, hnm, hts, hlocks, hK, hA, hZ, hfr, hlo, hmc, hms, hXt⟩ := C
  intro J nx hJ hn L st K h ce sl ho
  unfold o_aast at ho
  split at ho
  · rename_i b i a r
    split at ho
    · rename_i K2 hp
      obtain ⟨ts, fs, e1, e2, hi, rfl⟩ := jaast_eq hp
      intro hk ad H locs ls h1 h2 h3 h4 h5
      refine va_astq (r := (Cn, T, N)) hx hb hK h2 h3 h4 a ti b ci (jw_at e1) (ht cid) (jw_at e2) hc hi hd (fun H1 locs1 g1 g2 g3 => ?_)
      have e3 : jcell cid ad (h a) (.inr (.inr (ti, ts.set i.toNatClampNeg (some b)))) = .inl (cid ti, ts.length, .inr (.inr (.inr (.inr (va_up (fun j => (ts[j]?.join).map ad) i.toNatClampNeg (some (ad b))))))) := by
        show (Sum.inl (cid ti, (ts.set i.toNatClampNeg (some b)).length, Sum.inr (Sum.inr (Sum.inr (Sum.inr (fun j => ((ts.set i.toNatClampNeg (some b))[j]?.join).map ad))))) : va_E) = _
        rw [List.length_set]
        congr 7
        funext j
        have hl := vp_in_clamp hi
        by_cases hj : i.toNatClampNeg = j
        · subst hj
          rw [List.getElem?_set_self hl]
          simp [va_up]
        · rw [List.getElem?_set_ne hj]
          have : ¬ j = i.toNatClampNeg := fun z => hj z.symm
          simp [va_up, this]
      exact j_set (hn _ _ _ _ _ _ ho) hk h1 e1 (by rw [e3]; exact g1) (by rw [e3]; exact g2) g3 h5
    · exact ho.elim
  · exact ho.elim
/-- a constructor's call: cells may come -/
def o_callA (mc ms n mc2 ms2 : Nat) (T : jT) : jO := fun _ _ nx L st K h ce sl => match jsp n st [] with
  | some (.ref b :: as, r) => jcs r ≤ 8 ∧ ce + mc2 ≤ mc ∧ sl + ms2 ≤ ms ∧ jloL K.length L r = true ∧ T (.ref b :: as) K h (fun v K' h' => v = none ∧ nx L r K' h' (ce + mc2) (sl + ms2))
  | _ => False
theorem jLh_moved {ls : Array Slot} {nL : Nat} {ad ad' : Nat → Nat} {L : jL} {n n2 : Nat} (h : jLh ls nL ad L) (hl : ∀ i, i < n ∨ n2 ≤ i → ad' i = ad i) (h2 : n2 ≤ 1000) (hf : L.all (fun o => match o with | some v => jlo n v | none => true) = true) : jLh ls nL ad' L := by
  refine ⟨h.1, h.2.1, fun x hx => ?_⟩
  obtain ⟨j, w⟩ := x
  obtain ⟨u, hu, rfl⟩ := (jasc_mem _ _ j w).mp hx
  have hm : some u ∈ L := by
    clear h hf hx
    induction L generalizing j with
    | nil => simp [jg] at hu
    | cons a r ih =>
      cases j with
      | zero => simp only [jg] at hu; rw [hu]; exact List.mem_cons_self
      | succ j => exact List.mem_cons_of_mem _ (ih j (by simpa [jg] using hu))
  have h3 := List.all_eq_true.mp hf _ hm
  have e : jv ad' u = jv ad u := by
    cases u with
    | ref t =>
      simp only [jlo, Bool.or_eq_true, decide_eq_true_eq] at h3
      show Value.ref (ad' t) = Value.ref (ad t)
      have h' : (show Nat from t) < n ∨ 1000 ≤ (show Nat from t) := h3
      have h4 : (show Nat from t) < n ∨ n2 ≤ (show Nat from t) := by
        rcases h' with z | z
        · exact Or.inl z
        · exact Or.inr (Nat.le_trans h2 z)
      rw [hl t h4]
    | _ => rfl
  rw [e]
  exact jLh_at h hu
theorem jst_moved {ad ad' : Nat → Nat} {n n2 : Nat} {st : List Value} (hl : ∀ i, i < n ∨ n2 ≤ i → ad' i = ad i) (h2 : n2 ≤ 1000) (hf : st.all (jlo n) = true) : st.map (jv ad') = st.map (jv ad) := by
  apply List.map_congr_left
  intro v hv
  have h3 := List.all_eq_true.mp hf v hv
  cases v with
  | ref t =>
    simp only [jlo, Bool.or_eq_true, decide_eq_true_eq] at h3
    show Value.ref (ad' t) = Value.ref (ad t)
    have h' : (show Nat from t) < n ∨ 1000 ≤ (show Nat from t) := h3
    have h4 : (show Nat from t) < n ∨ n2 ≤ (show Nat from t) := by
      rcases h' with z | z
      · exact Or.inl z
      · exact Or.inr (Nat.le_trans h2 z)
    rw [hl t h4]
  | _ => rfl
theorem so_callI {Γ : jΓ} {Q : jPost} {cc : ByteArray} {own nm : String} {rt : Option FieldType} {ws : List Cond} {fr lo mc ms : Nat} (C : jC Γ cc own nm rt ws fr lo mc ms) {pc : Nat} {index : Nat} {y : MethodName} {bytes : ByteArray} {maxL n fr2 lo2 mc2 ms2 : Nat} {ws2 ws3 : List Cond} {T : jT} (g : GoodIn ws ws2) (hini : Cond.initialized y.cls ∈ ws) (hml2 : Cond.methodLink own index y ∈ ws) (him : Cond.instanceMethod y ∈ ws) (hy1 : y.name = "<init>") (hd3 : y.cls ≠ "java/lang/invoke/MethodHandle" ∧ y.cls ≠ "java/lang/invoke/VarHandle" ∧ (parseMethodDescriptor y.desc).map (fun d => d.parameters.length) = some n) (hw2 : ws2 = Cond.code y bytes maxL none :: ws3) (hM : jHolds Γ.2.2.2.2.2.2.2.2.2.2.2.1 Γ.2.1 y ws2 fr2 lo2 mc2 ms2 T) (hf1 : fr2 + 1 ≤ fr) (hf2 : 8 + (maxL + 11) + lo2 ≤ lo) (hd : decode cc pc = .ok (.invokespecial index, 3)) : jSA Γ Q pc (o_callA mc ms (n + 1) mc2 ms2 T) 3 := by
  obtain ⟨p, l, e, R, s, m, args, below, meth, c, nL, cl, D, cid, A, ad0, k0, Qf⟩ := Γ
  obtain ⟨hx, hb, hml, hown, hr, hnm, hts, hlocks, hK, hA, hZ, hfr, hlo, hmc, hms, hXt⟩ := C
  intro J nx hJ hn L st K h ce sl ho
  unfold o_callA at ho
  split at ho
  · rename_i b as r hsp
    obtain ⟨e1, e2⟩ := jsp_st hsp
    obtain ⟨hc8, hce, hsl, hlo2, ho⟩ := ho
    intro hk ad H locs ls h1 h2 h3 h4 h5
    have hAA : ∀ q, va_A (jw cid ad K h) H.size q → A q := fun q hq => by
      rcases hq with ⟨k, e9, hq⟩ | hq
      · exact h3.2 k _ hq
      · exact hA q (Nat.le_trans h4.1 hq)
    have hpre : ∀ U : State, U.heap = H → s.WarmedH U.vm → jPre cl D cid ad K h H.size U := fun U hU hW =>
      ⟨by rw [hU], hk.2.1, by rw [hU]; exact h2, va_K.moved hW.alike hK, h3.weaken (fun _ _ _ _ => trivial), by rw [hU]; exact jZ_to hZ hW.alike (fun a q1 q2 => h4.2.1 a q1 q2) hAA (fun i hi => h1 i (Or.inr (by have := hk.2.1; omega))), jXt_warm hW hXt⟩
    have hcs : 2 * (F0 m pc ls (st.map (jv ad))).monitorRoom + ((r.map (jv ad)).map fun v => v.category).sum ≤ 8 := lv_room (by rw [jcs_eq]; exact hc8)
    have hrun := va_runI (l := l) (e := e) (R := R) (below := below) (meth := meth) (H := H) (locs := locs) (cells := ce) (slots := sl) (b := ad b) (As := as.map (jv ad)) (rest := r.map (jv ad)) (g := F0 m pc ls (st.map (jv ad))) ⟨hx, hb, hml, hown, hts⟩ (hM D cid ad H.size (.ref b :: as) K h _ ho) (cwI n hts g hw2 rfl rfl (hts _ hini) (hts _ hml2) (hts _ him) hy1 hd3 ⟨by rw [hfr]; exact hf1, by rw [hlo]; exact hf2⟩) ⟨jPre_blind, fun U hU hW => ⟨rfl, hpre U hU hW⟩⟩ rfl (by rw [List.length_map]; simpa using e2) h5.1 (by show st.map (jv ad) = _; rw [e1, List.reverse_cons, List.append_assoc, List.map_append, List.map_reverse]; rfl) hcs hd ⟨by rw [hmc]; exact hce, by rw [hms]; exact hsl⟩
    refine j_after hrun h4 hAA hAA (fun v ad' K' h' H1 locs1 g1 g2 g3 g4 g5 g6 => ?_)
    obtain ⟨rfl, g3⟩ := g3
    simp only [jloL, Bool.and_eq_true] at hlo2
    have := hn _ _ _ _ _ _ g3 ⟨Nat.le_trans hk.1 g1.1, g1.2, by rw [hmc]; exact hce, by rw [hms]; exact hsl⟩ ad' H1 locs1 ls (fun i hi => by rw [g2 i (by omega)]; exact h1 i (by omega)) g4 g5 g6 (jLh_moved h5 g2 g1.2 hlo2.1)
    rw [jst_moved g2 g1.2 hlo2.2] at this
    exact this
  · exact ho.elim
theorem so_callIN {Γ : jΓ} {Q : jPost} {cc : ByteArray} {own nm : String} {rt : Option FieldType} {ws : List Cond} {fr lo mc ms : Nat} (C : jC Γ cc own nm rt ws fr lo mc ms) {pc : Nat} {index : Nat} {y : MethodName} {bytes : ByteArray} {maxL n fr2 lo2 mc2 ms2 : Nat} {ws2 ws3 : List Cond} {T : jT} {host : String} (g : GoodIn ws ws2) (hini : Cond.initialized y.cls ∈ ws) (hnl : (own, index, y, host) ∈ jnw) (him : Cond.instanceMethod y ∈ ws) (hy1 : y.name = "<init>") (hd3 : y.cls ≠ "java/lang/invoke/MethodHandle" ∧ y.cls ≠ "java/lang/invoke/VarHandle" ∧ (parseMethodDescriptor y.desc).map (fun d => d.parameters.length) = some n) (hw2 : ws2 = Cond.code y bytes maxL none :: ws3) (hM : jHolds Γ.2.2.2.2.2.2.2.2.2.2.2.1 Γ.2.1 y ws2 fr2 lo2 mc2 ms2 T) (hf1 : fr2 + 1 ≤ fr) (hf2 : 8 + (maxL + 11) + lo2 ≤ lo) (hd : decode cc pc = .ok (.invokespecial index, 3)) : jSA Γ Q pc (o_callA mc ms (n + 1) mc2 ms2 T) 3 := by
  obtain ⟨p, l, e, R, s, m, args, below, meth, c, nL, cl, D, cid, A, ad0, k0, Qf⟩ := Γ
  obtain ⟨hx, hb, hml, hown, hr, hnm, hts, hlocks, hK, hA, hZ, hfr, hlo, hmc, hms, hXt⟩ := C
  intro J nx hJ hn L st K h ce sl ho
  unfold o_callA at ho
  split at ho
  · rename_i b as r hsp
    obtain ⟨e1, e2⟩ := jsp_st hsp
    obtain ⟨hc8, hce, hsl, hlo2, ho⟩ := ho
    intro hk ad H locs ls h1 h2 h3 h4 h5
    have hAA : ∀ q, va_A (jw cid ad K h) H.size q → A q := fun q hq => by
      rcases hq with ⟨k, e9, hq⟩ | hq
      · exact h3.2 k _ hq
      · exact hA q (Nat.le_trans h4.1 hq)
    have hpre : ∀ U : State, U.heap = H → s.WarmedH U.vm → jPre cl D cid ad K h H.size U := fun U hU hW =>
      ⟨by rw [hU], hk.2.1, by rw [hU]; exact h2, va_K.moved hW.alike hK, h3.weaken (fun _ _ _ _ => trivial), by rw [hU]; exact jZ_to hZ hW.alike (fun a q1 q2 => h4.2.1 a q1 q2) hAA (fun i hi => h1 i (Or.inr (by have := hk.2.1; omega))), jXt_warm hW hXt⟩
    have hcs : 2 * (F0 m pc ls (st.map (jv ad))).monitorRoom + ((r.map (jv ad)).map fun v => v.category).sum ≤ 8 := lv_room (by rw [jcs_eq]; exact hc8)
    have hrun := va_runIN (l := l) (e := e) (R := R) (below := below) (meth := meth) (H := H) (locs := locs) (cells := ce) (slots := sl) (b := ad b) (As := as.map (jv ad)) (rest := r.map (jv ad)) (g := F0 m pc ls (st.map (jv ad))) ⟨hx, hb, hml, hown, hts⟩ (hM D cid ad H.size (.ref b :: as) K h _ ho) ⟨va_cnB n hts g hw2 rfl rfl (hXt.1 _ hnl) (hts _ hini) hd3 ⟨by rw [hfr]; exact hf1, by rw [hlo]; exact hf2⟩, hy1, hts _ him⟩ ⟨jPre_blind, fun U hU hW => ⟨rfl, hpre U hU hW⟩⟩ rfl (by rw [List.length_map]; simpa using e2) h5.1 (by show st.map (jv ad) = _; rw [e1, List.reverse_cons, List.append_assoc, List.map_append, List.map_reverse]; rfl) hcs hd ⟨by rw [hmc]; exact hce, by rw [hms]; exact hsl⟩
    refine j_after hrun h4 hAA hAA (fun v ad' K' h' H1 locs1 g1 g2 g3 g4 g5 g6 => ?_)
    obtain ⟨rfl, g3⟩ := g3
    simp only [jloL, Bool.and_eq_true] at hlo2
    have := hn _ _ _ _ _ _ g3 ⟨Nat.le_trans hk.1 g1.1, g1.2, by rw [hmc]; exact hce, by rw [hms]; exact hsl⟩ ad' H1 locs1 ls (fun i hi => by rw [g2 i (by omega)]; exact h1 i (by omega)) g4 g5 g6 (jLh_moved h5 g2 g1.2 hlo2.1)
    rw [jst_moved g2 g1.2 hlo2.2] at this
    exact this
  · exact ho.elim
