/-! ===== two objects in one world: a call on a part of it; methods that read the script ===== -/
def jshF (b : Nat) (f : jF) : jF := f.map (fun o => o.map (fun t => b + t))
/-- a kind, its references b numbers further on -/
def jshK (b : Nat) (kd : jK) : jK := match kd with
  | .inl (ci, fs) => .inl (ci, fs.map (jshF b))
  | .inr (.inl q) => .inr (.inl q)
  | .inr (.inr (ti, ts)) => .inr (.inr (ti, ts.map (fun o => o.map (fun t => b + t))))
def jadB (b : Nat) (ad : Nat → Nat) : Nat → Nat := fun i => if i < 900 then ad (b + i) else ad i
theorem jcell_sh {cid : Nat → ClassId} {ad : Nat → Nat} {b : Nat} {r : Nat → Int32} {kd : jK} (h : jloK 900 kd = true) : jcell cid ad r (jshK b kd) = jcell cid (jadB b ad) r kd := by
  rcases kd with ⟨ci, fs⟩ | (⟨ti, k⟩ | ⟨ti, ts⟩)
  · simp only [jloK, List.all_eq_true] at h
    show Sum.inr (ci, jfs ad r (fs.map (jshF b))) = Sum.inr (ci, jfs (jadB b ad) r fs)
    congr 2
    unfold jfs
    apply List.ext_getElem?
    intro i
    rw [List.getElem?_mapIdx, List.getElem?_mapIdx, List.getElem?_map]
    cases hi : fs[i]? with
    | none => rfl
    | some f =>
      have hf := h f (List.mem_of_getElem? hi)
      rcases f with _ | (_ | t)
      · rfl
      · rfl
      · simp only [jloF, decide_eq_true_eq] at hf
        simp [jshF, jfv, jadB, hf]
  · rfl
  · simp only [jloK, List.all_eq_true] at h
    show (Sum.inl (cid ti, (ts.map (fun o => o.map (fun t => b + t))).length, Sum.inr (Sum.inr (Sum.inr (Sum.inr (fun i => ((ts.map (fun o => o.map (fun t => b + t)))[i]?.join).map ad))))) : va_E) = Sum.inl (cid ti, ts.length, Sum.inr (Sum.inr (Sum.inr (Sum.inr (fun i => (ts[i]?.join).map (jadB b ad))))))
    rw [List.length_map]
    congr 7
    funext i
    rw [List.getElem?_map]
    cases hi : ts[i]? with
    | none => rfl
    | some o =>
      have hf := h o (List.mem_of_getElem? hi)
      cases o with
      | none => rfl
      | some t =>
        simp only [decide_eq_true_eq] at hf
        simp [jadB, hf]
/-- the cells depend on the numbers that there are alone -/
theorem jcell_ad {cid : Nat → ClassId} {ad ad' : Nat → Nat} {n : Nat} {r : Nat → Int32} {kd : jK} (h : jloK n kd = true) (hd : ∀ i, i < n → ad' i = ad i) : jcell cid ad' r kd = jcell cid ad r kd := by
  rcases kd with ⟨ci, fs⟩ | (⟨ti, k⟩ | ⟨ti, ts⟩)
  · simp only [jloK, List.all_eq_true] at h
    show Sum.inr (ci, jfs ad' r fs) = Sum.inr (ci, jfs ad r fs)
    congr 2
    unfold jfs
    apply List.ext_getElem?
    intro i
    rw [List.getElem?_mapIdx, List.getElem?_mapIdx]
    cases hi : fs[i]? with
    | none => rfl
    | some f =>
      have hf := h f (List.mem_of_getElem? hi)
      rcases f with _ | (_ | t)
      · rfl
      · rfl
      · simp only [jloF, decide_eq_true_eq] at hf
        simp [jfv, hd t hf]
  · rfl
  · simp only [jloK, List.all_eq_true] at h
    show (Sum.inl (cid ti, ts.length, _) : va_E) = Sum.inl (cid ti, ts.length, _)
    congr 7
    funext i
    cases hi : ts[i]? with
    | none => rfl
    | some o =>
      have hf := h o (List.mem_of_getElem? hi)
      cases o with
      | none => rfl
      | some t =>
        simp only [decide_eq_true_eq] at hf
        simp [hd t hf]
theorem jw_ad {cid : Nat → ClassId} {ad ad' : Nat → Nat} {K : List jK} {h g : jM} (hK : K.all (jloK K.length) = true) (hd : ∀ i, i < K.length → ad' i = ad i) (hg : ∀ i, i < K.length → g i = h i) : jw cid ad' K g = jw cid ad K h := by
  apply List.ext_getElem?
  intro i
  rw [jw_get, jw_get]
  cases hi : K[i]? with
  | none => rfl
  | some kd =>
    have hl := (List.getElem?_eq_some_iff.mp hi).1
    have hf := List.all_eq_true.mp hK kd (List.mem_of_getElem? hi)
    simp only [Option.map_some]
    rw [jcell_ad hf hd, hd i hl, hg i hl]
/-- two memories behind each other: the first's 37 rows, then the second's -/
def jm2 (a q : jM) : jM := fun c => if c < 37 then a c else q (c - 37)
/-- a world behind the first object's -/
def KT1 (K1 : List jK) : List jK := KX ++ K1.map (jshK 37)
def KT : List jK := KT1 KX
theorem KX_len : KX.length = 37 := rfl
theorem KX_lo : KX.all (jloK 37) = true := by decide +kernel
theorem KX_lo9 : KX.all (jloK 900) = true := by decide +kernel
theorem KT_len : KT.length = 74 := rfl
theorem jw_two {cid : Nat → ClassId} {ad : Nat → Nat} {K1 : List jK} {h a q : jM} (h9 : K1.all (jloK 900) = true) (hl : K1.length ≤ 900) (hh : ∀ c, c < 37 + K1.length → h c = jm2 a q c) : jw cid ad (KT1 K1) h = jw cid ad KX a ++ jw cid (jadB 37 ad) K1 q := by
  unfold KT1
  apply List.ext_getElem?
  intro i
  rw [jw_get]
  by_cases hi : i < 37
  · rw [List.getElem?_append_left (by rw [KX_len]; exact hi), List.getElem?_append_left (by rw [jw_len, KX_len]; exact hi), jw_get]
    have e : h i = a i := by rw [hh i (by omega)]; exact if_pos hi
    rw [e]
  · rw [List.getElem?_append_right (by rw [KX_len]; omega), List.getElem?_append_right (by rw [jw_len, KX_len]; omega), jw_get, jw_len, KX_len, List.getElem?_map]
    cases hk : K1[i - 37]? with
    | none => rfl
    | some kd =>
      have hl2 := (List.getElem?_eq_some_iff.mp hk).1
      have hf := List.all_eq_true.mp h9 kd (List.mem_of_getElem? hk)
      simp only [Option.map_some]
      have e : h i = q (i - 37) := by rw [hh i (by omega)]; exact if_neg hi
      rw [jcell_sh hf, e]
      have e2 : jadB 37 ad (i - 37) = ad i := by
        unfold jadB
        rw [if_pos (by omega), show 37 + (i - 37) = i by omega]
      rw [e2]
section JSUB
variable {p : Program} {l : Launch} {e : Env} {R : Room} {s : State} {m : MethodId} {args : Array Value} {below : List Frame} {meth : Method} {c : Code} {H : Heap} {locs : List Loc} {ce sl mc ms : Nat} {Qf : State → Prop}
variable {pc : Nat} {ls : Array Slot} {rest st0 : List Value} {a : Array Value} {A : Nat → Prop} {cl : List vw_C} {D : va_G} {cid : Nat → ClassId} {ad1 : Nat → Nat} {K1 : List jK} {h1 : jM} {Q1 : jPost} {X : va_W}
/-- behind a call on a part of the world: the rest is as it was -/
theorem j_sub (hr : va_Run p l e R s m args below meth c H locs ce sl mc ms (F0 m pc ls st0) rest (jQ cl D cid ad1 K1 h1 H.size Q1 a) (va_A (jw cid ad1 K1 h1) H.size)) (hP : va_P D cl (X ++ jw cid ad1 K1 h1) H) (hD : va_D A (X ++ jw cid ad1 K1 h1)) (hS : va_S A s.heap H locs) (hA : ∀ q, s.heap.size ≤ q → A q)
    (kk : ∀ (v : Option Value) (ad' : Nat → Nat) (K' : List jK) (h' : jM) (H1 : Heap) (locs1 : List Loc), K1.length ≤ K'.length ∧ K'.length ≤ 1000 → (∀ i, i < K1.length ∨ K'.length ≤ i → ad' i = ad1 i) → Q1 v K' h' → va_P D cl (X ++ jw cid ad' K' h') H1 → va_D A (X ++ jw cid ad' K' h') → va_S A s.heap H1 locs1 → W p l e R s m args below meth c H1 locs1 (ce + mc) (sl + ms) Qf (F0 m (pc + 3) ls ((v.map (jv ad')).toList ++ rest))) : W p l e R s m args below meth c H locs ce sl Qf (F0 m pc ls st0) := by
  have hX : ∀ (k : Nat) (x : Nat × va_E), X[k]? = some x → (X ++ jw cid ad1 K1 h1)[k]? = some x := fun k x hx => by
    rw [List.getElem?_append_left (List.getElem?_eq_some_iff.mp hx).1]; exact hx
  have h1in : ∀ (k : Nat) (x : Nat × va_E), (jw cid ad1 K1 h1)[k]? = some x → (X ++ jw cid ad1 K1 h1)[X.length + k]? = some x := fun k x hx => by
    rw [List.getElem?_append_right (Nat.le_add_right _ _), Nat.add_sub_cancel_left]; exact hx
  have hAA : ∀ q, va_A (jw cid ad1 K1 h1) H.size q → A q := fun q hq => by
    rcases hq with ⟨k, e9, hq⟩ | hq
    · exact hD.2 _ _ (h1in k _ hq)
    · exact hA q (Nat.le_trans hS.1 hq)
  have hout : ∀ (k : Nat) (x : Nat × va_E), X[k]? = some x → x.1 < H.size ∧ ¬ va_A (jw cid ad1 K1 h1) H.size x.1 := fun k x hx => by
    have hlt := (hP k x (hX k x hx)).lt
    refine ⟨hlt, fun z => ?_⟩
    rcases z with ⟨j, e9, hj⟩ | hj
    · have h9 := hD.1 k (X.length + j) x (x.1, e9) (hX k x hx) (h1in j _ hj) rfl
      have h8 := (List.getElem?_eq_some_iff.mp hx).1
      omega
    · omega
  intro T hT X9
  obtain ⟨v, st₀, t, T', L, h0, X', hL, e1, e2, ⟨⟨v1, ad', K', h', hv, g1, g2, g3, g4, g5⟩, hz, hk⟩, st⟩ := hr T hT X9
  cases hv
  rw [h0] at hz hk
  obtain ⟨t2, a1, b1⟩ := kk v1 ad' K' h' T'.heap (locs ++ L) g1 g2 g3
    (fun k x hx => by
      rw [e1]
      by_cases hlt : k < X.length
      · rw [List.getElem?_append_left hlt] at hx
        obtain ⟨o1, o2⟩ := hout k x hx
        exact (hP k x (hX k x hx)).kept (hk x.1 o1 o2)
      · rw [List.getElem?_append_right (by omega)] at hx
        exact g4 _ x hx)
    (va_D.app ⟨fun i j x y hi hj hxy => hD.1 i j x y (hX i x hi) (hX j y hj) hxy, fun k x hx => hD.2 k x (hX k x hx)⟩ (g5.weaken (fun _ _ _ q => hAA _ q)) (fun i j x y hi hj hxy => (hout i x hi).2 (by rw [hxy]; exact g5.2 j y hj)))
    ⟨Nat.le_trans hS.1 (by rw [e1]; exact hz), fun q q1 q2 => by rw [e1, hk q (Nat.lt_of_lt_of_le q1 hS.1) (fun z => q2 (hAA q z))]; exact hS.2.1 q q1 q2, fun q hq => by
      rcases List.mem_append.mp hq with h | h
      · exact hS.2.2 q h
      · exact hAA _ (hL q h)⟩ T' rfl X'
  exact ⟨t2, st t2 a1, b1⟩
end JSUB
/-- what a call on a part needs -/
theorem j_pre {cl : List vw_C} {D : va_G} {cid : Nat → ClassId} {ad0 ad1 : Nat → Nat} {A : Nat → Prop} {s U : State} {H : Heap} {locs : List Loc} {X : va_W} {K1 : List jK} {h1 : jM} (hK : va_K D cl (jTy cid) s) (hA : ∀ q, s.heap.size ≤ q → A q) (hZ : jZ ad0 A s s.heap) (hXt : jXt s) (hl : K1.length ≤ 1000) (hP : va_P D cl (X ++ jw cid ad1 K1 h1) H) (hD : va_D A (X ++ jw cid ad1 K1 h1)) (hS : va_S A s.heap H locs) (had : ∀ i, 1000 ≤ i → ad1 i = ad0 i) (hU : U.heap = H) (hW : s.WarmedH U.vm) : jPre cl D cid ad1 K1 h1 H.size U := by
  have h1in : ∀ (k : Nat) (x : Nat × va_E), (jw cid ad1 K1 h1)[k]? = some x → (X ++ jw cid ad1 K1 h1)[X.length + k]? = some x := fun k x hx => by
    rw [List.getElem?_append_right (Nat.le_add_right _ _), Nat.add_sub_cancel_left]; exact hx
  have hAA : ∀ q, va_A (jw cid ad1 K1 h1) H.size q → A q := fun q hq => by
    rcases hq with ⟨k, e9, hq⟩ | hq
    · exact hD.2 _ _ (h1in k _ hq)
    · exact hA q (Nat.le_trans hS.1 hq)
  refine ⟨by rw [hU], hl, fun k x hx => by rw [hU]; exact hP _ x (h1in k x hx), va_K.moved hW.alike hK, ⟨fun i j x y hi hj hxy => ?_, fun _ _ _ => trivial⟩, ?_, jXt_warm hW hXt⟩
  · have := hD.1 _ _ x y (h1in i x hi) (h1in j y hj) hxy
    omega
  · rw [hU]
    exact jZ_to hZ hW.alike (fun a q1 q2 => hS.2.1 a q1 q2) hAA had
def jpr : Value → Bool
  | .ref _ => false
  | _ => true
def jprO : Option Value → Bool
  | some v => jpr v
  | none => true
theorem jpr_v {ad ad' : Nat → Nat} {v : Value} (h : jpr v = true) : jv ad v = jv ad' v := by
  cases v with
  | ref t => cases h
  | _ => rfl
theorem jpr_l {ad ad' : Nat → Nat} : ∀ {as : List Value}, as.all jpr = true → as.map (jv ad) = as.map (jv ad')
  | [], _ => rfl
  | v :: r, h => by
    simp only [List.all_cons, Bool.and_eq_true] at h
    simp only [List.map_cons]
    rw [jpr_v (ad' := ad') h.1, jpr_l (ad' := ad') h.2]
/-- a virtual call on the first, on the second of two objects -/
def o_cv0 (n ci : Nat) (T : jT) : jO := fun _ _ nx L st K h ce sl => match jsp n st [] with
  | some (.ref b :: as, r) => jcs r ≤ 8 ∧ b = 0 ∧ job KX 0 = some ci ∧ K = KT ∧ ∃ a q : jM, h = jm2 a q ∧ as.all jpr = true ∧ T (.ref 0 :: as) KX a (fun v K' a' => K' = KX ∧ jprO v = true ∧ nx L (v.toList ++ r) KT (jm2 a' q) ce sl)
  | _ => False
def o_cv1 (n ci : Nat) (T : jT) : jO := fun _ _ nx L st K h ce sl => match jsp n st [] with
  | some (.ref b :: as, r) => jcs r ≤ 8 ∧ b = 37 ∧ job KX 0 = some ci ∧ K = KT ∧ ∃ a q : jM, h = jm2 a q ∧ as.all jpr = true ∧ T (.ref 0 :: as) KX q (fun v K' q' => K' = KX ∧ jprO v = true ∧ nx L (v.toList ++ r) KT (jm2 a q') ce sl)
  | _ => False
theorem jO_l {ad ad' : Nat → Nat} {v : Option Value} {r : List Value} (h : jprO v = true) : (v.map (jv ad)).toList ++ r.map (jv ad') = (v.toList ++ r).map (jv ad') := by
  cases v with
  | none => rfl
  | some v =>
    simp only [Option.map_some, Option.toList_some, List.cons_append, List.nil_append, List.map_cons]
    rw [jpr_v (ad' := ad') h]
theorem jP_swap {D : va_G} {cl : List vw_C} {b c : va_W} {H : Heap} (h : va_P D cl (b ++ c) H) : va_P D cl (c ++ b) H := va_P.swap (a := []) h
theorem jP_l {D : va_G} {cl : List vw_C} {b c : va_W} {H : Heap} (h : va_P D cl (b ++ c) H) : va_P D cl b H := fun k x hx => h k x (by rw [List.getElem?_append_left (List.getElem?_eq_some_iff.mp hx).1]; exact hx)
theorem jD_swap {A : Nat → Prop} {b c : va_W} (h : va_D A (b ++ c)) : va_D A (c ++ b) := va_D.swap (a := []) h
theorem so_cv0 {Γ : jΓ} {Q : jPost} {cc : ByteArray} {own nm : String} {rt : Option FieldType} {ws : List Cond} {fr lo mc ms : Nat} (C : jC Γ cc own nm rt ws fr lo mc ms) {pc : Nat} {index : Nat} {y : MethodName} {bytes : ByteArray} {maxL n fr2 lo2 : Nat} {ret2 : Option FieldType} {ws2 ws3 : List Cond} {T : jT} {Cn : String} {Tn : u_T} {N ci : Nat} (hc : Γ.2.2.2.2.2.2.2.2.2.2.2.1[ci]? = some (Cn, Tn, N)) (g : GoodIn ws (wsV own index Cn y ws2)) (hd3 : y.cls = Cn ∧ y.cls ≠ "java/lang/invoke/MethodHandle" ∧ y.cls ≠ "java/lang/invoke/VarHandle" ∧ (parseMethodDescriptor y.desc).map (fun d => d.parameters.length) = some n) (hw2 : ws2 = Cond.code y bytes maxL ret2 :: ws3) (hM : jHolds Γ.2.2.2.2.2.2.2.2.2.2.2.1 Γ.2.1 y ws2 fr2 lo2 0 0 T) (hf1 : fr2 + 1 ≤ fr) (hf2 : 8 + (maxL + 11) + lo2 ≤ lo) (hd : decode cc pc = .ok (.invokevirtual index, 3)) : jSA Γ Q pc (o_cv0 (n + 1) ci T) 3 := by
  obtain ⟨p, l, e, R, s, m, args, below, meth, c, nL, cl, D, cid, A, ad0, k0, Qf⟩ := Γ
  obtain ⟨hx, hb, hml, hown, hr, hnm, hts, hlocks, hK, hA, hZ, hfr, hlo, hmc, hms, hXt⟩ := C
  intro J nx hJ hn L st K h ce sl ho
  unfold o_cv0 at ho
  split at ho
  · rename_i b as r hsp
    obtain ⟨e1, e2⟩ := jsp_st hsp
    obtain ⟨hc8, rfl, hjob, rfl, a, q, rfl, hpr, ho⟩ := ho
    obtain ⟨fs, hjob⟩ := job_eq hjob
    intro hk ad H locs ls h1 h2 h3 h4 h5
    have eW : ∀ a q, jw cid ad KT (jm2 a q) = jw cid ad KX a ++ jw cid (jadB 37 ad) KX q := fun a q => jw_two KX_lo9 (by decide) (fun _ _ => rfl)
    rw [eW] at h2 h3
    have h2' := jP_swap h2
    have h3' := jD_swap h3
    have hpre : ∀ U : State, U.heap = H → s.WarmedH U.vm → jPre cl D cid ad KX a H.size U := fun U hU hW => j_pre hK hA hZ hXt (by decide) h2' h3' h4 (fun i hi => h1 i (Or.inr (by rw [KT_len]; omega))) hU hW
    have hcs : 2 * (F0 m pc ls (st.map (jv ad))).monitorRoom + ((r.map (jv ad)).map fun v => v.category).sum ≤ 8 := lv_room (by rw [jcs_eq]; exact hc8)
    have hrun := va_runV (l := l) (e := e) (R := R) (below := below) (meth := meth) (H := H) (locs := locs) (cells := ce) (slots := sl) (b := ad 0) (As := as.map (jv ad)) (rest := r.map (jv ad)) (g := F0 m pc ls (st.map (jv ad))) ⟨hx, hb, hml, hown, hts⟩ (hM D cid ad H.size (.ref 0 :: as) KX a _ ho) (cwV n hts g hw2 rfl rfl hd3 ⟨by rw [hfr]; exact hf1, by rw [hlo]; exact hf2⟩) ⟨jPre_blind, va_recv hK (jP_l h2) hc (jw_at hjob), fun U hU hW => ⟨rfl, hpre U hU hW⟩⟩ rfl (by rw [List.length_map]; simpa using e2) h5.1 (by show st.map (jv ad) = _; rw [e1, List.reverse_cons, List.append_assoc, List.map_append, List.map_reverse]; rfl) hcs hd hk.2.2
    refine j_sub hrun h2' h3' h4 hA (fun v ad' K' h' H1 locs1 g1 g2 g3 g4 g5 g6 => ?_)
    obtain ⟨rfl, g0, g3⟩ := g3
    cases jad_eq g2
    have := hn _ _ _ _ _ _ g3 hk ad H1 locs1 ls h1 (by rw [eW]; exact jP_swap g4) (by rw [eW]; exact jD_swap g5) g6 h5
    rw [jO_l g0]
    exact this
  · exact ho.elim
theorem jad37 (ad : Nat → Nat) : jadB 37 ad 0 = ad 37 := rfl
theorem so_cv1 {Γ : jΓ} {Q : jPost} {cc : ByteArray} {own nm : String} {rt : Option FieldType} {ws : List Cond} {fr lo mc ms : Nat} (C : jC Γ cc own nm rt ws fr lo mc ms) {pc : Nat} {index : Nat} {y : MethodName} {bytes : ByteArray} {maxL n fr2 lo2 : Nat} {ret2 : Option FieldType} {ws2 ws3 : List Cond} {T : jT} {Cn : String} {Tn : u_T} {N ci : Nat} (hc : Γ.2.2.2.2.2.2.2.2.2.2.2.1[ci]? = some (Cn, Tn, N)) (g : GoodIn ws (wsV own index Cn y ws2)) (hd3 : y.cls = Cn ∧ y.cls ≠ "java/lang/invoke/MethodHandle" ∧ y.cls ≠ "java/lang/invoke/VarHandle" ∧ (parseMethodDescriptor y.desc).map (fun d => d.parameters.length) = some n) (hw2 : ws2 = Cond.code y bytes maxL ret2 :: ws3) (hM : jHolds Γ.2.2.2.2.2.2.2.2.2.2.2.1 Γ.2.1 y ws2 fr2 lo2 0 0 T) (hf1 : fr2 + 1 ≤ fr) (hf2 : 8 + (maxL + 11) + lo2 ≤ lo) (hd : decode cc pc = .ok (.invokevirtual index, 3)) : jSA Γ Q pc (o_cv1 (n + 1) ci T) 3 := by
  obtain ⟨p, l, e, R, s, m, args, below, meth, c, nL, cl, D, cid, A, ad0, k0, Qf⟩ := Γ
  obtain ⟨hx, hb, hml, hown, hr, hnm, hts, hlocks, hK, hA, hZ, hfr, hlo, hmc, hms, hXt⟩ := C
  intro J nx hJ hn L st K h ce sl ho
  unfold o_cv1 at ho
  split at ho
  · rename_i b as r hsp
    obtain ⟨e1, e2⟩ := jsp_st hsp
    obtain ⟨hc8, rfl, hjob, rfl, a, q, rfl, hpr, ho⟩ := ho
    obtain ⟨fs, hjob⟩ := job_eq hjob
    intro hk ad H locs ls h1 h2 h3 h4 h5
    have eW : ∀ a q, jw cid ad KT (jm2 a q) = jw cid ad KX a ++ jw cid (jadB 37 ad) KX q := fun a q => jw_two KX_lo9 (by decide) (fun _ _ => rfl)
    rw [eW] at h2 h3
    have hpre : ∀ U : State, U.heap = H → s.WarmedH U.vm → jPre cl D cid (jadB 37 ad) KX q H.size U := fun U hU hW => j_pre hK hA hZ hXt (by decide) h2 h3 h4 (fun i hi => by
      have : jadB 37 ad i = ad i := if_neg (by omega)
      rw [this]
      exact h1 i (Or.inr (by rw [KT_len]; omega))) hU hW
    have hcs : 2 * (F0 m pc ls (st.map (jv ad))).monitorRoom + ((r.map (jv ad)).map fun v => v.category).sum ≤ 8 := lv_room (by rw [jcs_eq]; exact hc8)
    have hrun := va_runV (l := l) (e := e) (R := R) (below := below) (meth := meth) (H := H) (locs := locs) (cells := ce) (slots := sl) (b := jadB 37 ad 0) (As := as.map (jv (jadB 37 ad))) (rest := r.map (jv ad)) (g := F0 m pc ls (st.map (jv ad))) ⟨hx, hb, hml, hown, hts⟩ (hM D cid (jadB 37 ad) H.size (.ref 0 :: as) KX q _ ho) (cwV n hts g hw2 rfl rfl hd3 ⟨by rw [hfr]; exact hf1, by rw [hlo]; exact hf2⟩) ⟨jPre_blind, va_recv hK (jP_l (jP_swap h2)) hc (jw_at hjob), fun U hU hW => ⟨rfl, hpre U hU hW⟩⟩ rfl (by rw [List.length_map]; simpa using e2) h5.1 (by show st.map (jv ad) = _; rw [jpr_l (ad' := ad) hpr, e1, List.reverse_cons, List.append_assoc, List.map_append, List.map_reverse]; rfl) hcs hd hk.2.2
    refine j_sub hrun h2 h3 h4 hA (fun v ad' K' h' H1 locs1 g1 g2 g3 g4 g5 g6 => ?_)
    obtain ⟨rfl, g0, g3⟩ := g3
    cases jad_eq g2
    have := hn _ _ _ _ _ _ g3 hk ad H1 locs1 ls h1 (by rw [eW]; exact g4) (by rw [eW]; exact g5) g6 h5
    rw [jO_l (ad' := ad) g0]
    exact this
  · exact ho.elim
