/-- the n upper values, lowest first, and the rest -/
def jsp : Nat → List Value → List Value → Option (List Value × List Value)
  | 0, st, acc => some (acc, st)
  | n + 1, v :: st, acc => jsp n st (v :: acc)
  | _ + 1, [], _ => none
theorem jsp_eq : ∀ (n : Nat) (st acc as r : List Value), jsp n st acc = some (as, r) → ∃ xs : List Value, as = xs.reverse ++ acc ∧ st = xs ++ r ∧ xs.length = n
  | 0, st, acc, as, r, h => by
    cases h
    exact ⟨[], rfl, rfl, rfl⟩
  | n + 1, [], acc, as, r, h => by cases h
  | n + 1, v :: st, acc, as, r, h => by
    obtain ⟨xs, e1, e2, e3⟩ := jsp_eq n st (v :: acc) as r h
    exact ⟨v :: xs, by rw [e1]; simp, by rw [e2]; rfl, by simp [e3]⟩
theorem jsp_st {n : Nat} {st as r : List Value} (h : jsp n st [] = some (as, r)) : st = as.reverse ++ r ∧ as.length = n := by
  obtain ⟨xs, e1, e2, e3⟩ := jsp_eq n st [] as r h
  rw [List.append_nil] at e1
  subst e1
  exact ⟨by rw [List.reverse_reverse]; exact e2, by rw [List.length_reverse]; exact e3⟩
def jcs : List Value → Nat
  | [] => 0
  | v :: r => v.category + jcs r
theorem jcs_eq (ad : Nat → Nat) : ∀ r : List Value, ((r.map (jv ad)).map fun v => v.category).sum = jcs r
  | [] => rfl
  | v :: r => by simp only [List.map_cons, List.sum_cons, jv_cat, jcs, jcs_eq ad r]
/-- a method's start: the world, the tables, the constant rows -/
def jPre (cl : List vw_C) (D : va_G) (cid : Nat → ClassId) (ad : Nat → Nat) (K : List jK) (h : jM) (sz : Nat) (U : State) : Prop := U.heap.size = sz ∧ K.length ≤ 1000 ∧ va_P D cl (jw cid ad K h) U.heap ∧ va_K D cl (jTy cid) U ∧ va_D (fun _ => True) (jw cid ad K h) ∧ jZ ad (va_A (jw cid ad K h) sz) U U.heap ∧ jXt U
/-- a method's end: an answer and a world that Q allows -/
def jQ (cl : List vw_C) (D : va_G) (cid : Nat → ClassId) (ad : Nat → Nat) (K : List jK) (h : jM) (sz : Nat) (Q : jPost) : Array Value → State → Outcome → State → Prop := fun _ st oc t => (∃ (v : Option Value) (ad' : Nat → Nat) (K' : List jK) (h' : jM), oc = .returned (v.map (jv ad')) ∧ (K.length ≤ K'.length ∧ K'.length ≤ 1000) ∧ (∀ i, i < K.length ∨ K'.length ≤ i → ad' i = ad i) ∧ Q v K' h' ∧ va_P D cl (jw cid ad' K' h') t.heap ∧ va_D (va_A (jw cid ad K h) sz) (jw cid ad' K' h')) ∧ va_F (va_A (jw cid ad K h) sz) st t
/-- a contract: whatever T asks for comes about -/
def jHolds (cl : List vw_C) (l : Launch) (y : MethodName) (ws : List Cond) (fr lo mc ms : Nat) (T : jT) : Prop := ∀ (D : va_G) (cid : Nat → ClassId) (ad : Nat → Nat) (sz : Nat) (vs : List Value) (K : List jK) (h : jM) (Q : jPost), T vs K h Q → Met l y ws { frames := fr, cells := mc, slots := ms, locals := lo } (va_Pc (vs.map (jv ad)) (jPre cl D cid ad K h sz)) (jQ cl D cid ad K h sz Q) mc ms (va_A (jw cid ad K h) sz)
theorem jZ_to {ad ad0 : Nat → Nat} {A B : Nat → Prop} {s U : State} {H : Heap} (hZ : jZ ad0 A s s.heap) (hvm : s.vm.Alike U.vm) (hq : ∀ a : Nat, a < s.heap.size → ¬ A a → H[a]? = s.heap[a]?) (hAB : ∀ q, B q → A q) (had : ∀ i, 1000 ≤ i → ad i = ad0 i) : jZ ad B U H := by
  intro j hj
  obtain ⟨h1, h2⟩ := hZ j hj
  rw [had (1000 + j) (by omega)]
  exact ⟨((h1.moved hvm).kept hq).narrow hAB, ((h2.moved hvm).kept hq).narrow hAB⟩
theorem jAOA_moved {u U : State} (hvm : u.vm.Alike U.vm) (h : (Cond.arrayOver (.array .int)).before #[] u = true) : (Cond.arrayOver (.array .int)).before #[] U = true := by
  unfold Cond.before Cond.holds at h ⊢
  simp only [Cond.value, beq_iff_eq] at h ⊢
  cases hc : u.vm.findClass (FieldType.array .int).toString with
  | none => simp [hc] at h
  | some comp =>
    simp only [hc, Option.bind_some, Option.bind_eq_some_iff, Option.map_eq_some_iff] at h
    obtain ⟨c, hi, k, hk, hb⟩ := h
    obtain ⟨k', hk', he⟩ := hvm.2.2 _ _ hk
    have hi' : (U.vm.classes.findIdx? fun (x : Class) => match x.kind with | .array component _ => component == comp | _ => false) = some c := by
      refine (va_idx_bare U.vm comp).symm.trans ?_
      first | rw [hvm.bare_eq] | rw [← hvm.bare_eq]
      exact (va_idx_bare u.vm comp).trans hi
    have f1 : U.vm.findClass (FieldType.array .int).toString = some comp := by rw [hvm.findClass]; exact hc
    have f2 : U.vm.findClass ("[" ++ (FieldType.array .int).toString) = u.vm.findClass ("[" ++ (FieldType.array .int).toString) := by rw [hvm.findClass]
    rw [f1, Option.bind_some]
    refine (congrArg (fun o : Option Nat => o.bind (fun c => (U.vm.classes[c]?).map fun (k : Class) => match k.kind with | .array _ ty => decide (ty = FieldType.array .int) && decide (U.vm.findClass ("[" ++ (FieldType.array .int).toString) = some c) | _ => false)) hi').trans ?_
    simp only [Option.bind_some, hk', Option.map_some, Option.some.injEq]
    rw [he, f2]
    exact hb
theorem jXt_same {u U : State} (h : u.vm = U.vm) (q : jXt u) : jXt U := by
  obtain ⟨h1, h0, h2, h3, h4⟩ := q
  have hvm : u.vm.Alike U.vm := by rw [h]; exact Vm.Alike.refl U.vm
  exact ⟨fun q hq => (h1 q hq).same rfl h, fun q hq => (h0 q hq).same rfl h, va_AO.moved hvm h2, va_AO.moved hvm h3, jAOA_moved hvm h4⟩
theorem jZ_to' {ad : Nat → Nat} {A : Nat → Prop} {u U : State} {H : Heap} (hvm : u.vm.Alike U.vm) (hZ : jZ ad A u H) : jZ ad A U H := fun j hj => ⟨((hZ j hj).1).moved hvm, ((hZ j hj).2).moved hvm⟩
theorem jsl_len (ad : Nat → Nat) : ∀ vs : List Value, (lg_sl (vs.map (jv ad))).length = (lg_sl vs).length
  | [] => rfl
  | v :: vs => by
    have ih := jsl_len ad vs
    unfold lg_sl at ih ⊢
    rw [List.map_cons, List.flatMap_cons, List.flatMap_cons, List.length_append, List.length_append, ih, jv_cat]
    by_cases hc : v.category = 2
    · rw [if_pos hc, if_pos hc]; rfl
    · rw [if_neg hc, if_neg hc]; rfl
theorem jXt_warm {s U : State} (hW : s.WarmedH U.vm) (h : jXt s) : jXt U := by
  obtain ⟨h1, h0, h2, h3, h4⟩ := h
  have hvm := hW.alike
  refine ⟨fun q hq => (h1 q hq).warmM hW, fun q hq => (h0 q hq).warmF hW, va_AO.moved hvm h2, va_AO.moved hvm h3, ?_⟩
  exact jAOA_moved hvm h4
theorem jPre_blind {cl : List vw_C} {D : va_G} {cid : Nat → ClassId} {ad : Nat → Nat} {K : List jK} {h : jM} {sz : Nat} {vs : List Value} : FrameBlind (va_Pc vs (jPre cl D cid ad K h sz)) := by
  intro a U g mk q
  obtain ⟨q0, q1, q2, q3, q4, q5, q6, q7⟩ := q
  exact ⟨q0, q1, q2, q3, va_K.moved (u := U) (U := U.calling g mk a) (Vm.Alike.refl U.vm) q4, q5, jZ_to' (U := U.calling g mk a) (Vm.Alike.refl U.vm) q6, jXt_same (U := U.calling g mk a) rfl q7⟩
section JCALL
variable {p : Program} {l : Launch} {e : Env} {R : Room} {s : State} {m : MethodId} {args : Array Value} {below : List Frame} {meth : Method} {c : Code} {H : Heap} {locs : List Loc} {ce sl mc ms : Nat} {Qf : State → Prop}
variable {pc : Nat} {ls : Array Slot} {rest st0 : List Value} {a : Array Value} {A : Nat → Prop} {free : Addr → Prop} {cl : List vw_C} {D : va_G} {cid : Nat → ClassId} {ad : Nat → Nat} {K : List jK} {h : jM} {Q1 : jPost}
theorem j_after (hr : va_Run p l e R s m args below meth c H locs ce sl mc ms (F0 m pc ls st0) rest (jQ cl D cid ad K h H.size Q1 a) free) (hS : va_S A s.heap H locs) (hA : ∀ q, va_A (jw cid ad K h) H.size q → A q) (hf : ∀ q, free q → A q)
    (kk : ∀ (v : Option Value) (ad' : Nat → Nat) (K' : List jK) (h' : jM) (H1 : Heap) (locs1 : List Loc), K.length ≤ K'.length ∧ K'.length ≤ 1000 → (∀ i, i < K.length ∨ K'.length ≤ i → ad' i = ad i) → Q1 v K' h' → va_P D cl (jw cid ad' K' h') H1 → va_D A (jw cid ad' K' h') → va_S A s.heap H1 locs1 → W p l e R s m args below meth c H1 locs1 (ce + mc) (sl + ms) Qf (F0 m (pc + 3) ls ((v.map (jv ad')).toList ++ rest))) : W p l e R s m args below meth c H locs ce sl Qf (F0 m pc ls st0) := by
  intro T hT X
  obtain ⟨v, st₀, t, T', L, h0, X', hL, e1, e2, ⟨⟨v1, ad', K', h', hv, g1, g2, g3, g4, g5⟩, hz, hk⟩, st⟩ := hr T hT X
  cases hv
  rw [h0] at hz hk
  obtain ⟨t2, a1, b1⟩ := kk v1 ad' K' h' T'.heap (locs ++ L) g1 g2 g3 (by rw [e1]; exact g4) (g5.weaken (fun _ _ _ q => hA _ q))
    ⟨Nat.le_trans hS.1 (by rw [e1]; exact hz), fun q q1 q2 => by rw [e1, hk q (Nat.lt_of_lt_of_le q1 hS.1) (fun z => q2 (hA q z))]; exact hS.2.1 q q1 q2, fun q hq => by
      rcases List.mem_append.mp hq with h | h
      · exact hS.2.2 q h
      · exact hf _ (hL q h)⟩ T' rfl X'
  exact ⟨t2, st t2 a1, b1⟩
end JCALL
def job (K : List jK) (b : Nat) : Option Nat := match K[b]? with
  | some (.inl (ci, _)) => some ci
  | _ => none
theorem job_eq {K : List jK} {b ci : Nat} (h : job K b = some ci) : ∃ fs, K[b]? = some (.inl (ci, fs)) := by
  unfold job at h
  split at h
  · rename_i c2 fs hk
    cases h
    exact ⟨fs, hk⟩
  · cases h
/-- a call that makes nothing: a static method; a method of an object of class ci -/
def o_call (n : Nat) (T : jT) : jO := fun _ _ nx L st K h ce sl => match jsp n st [] with
  | some (as, r) => jcs r ≤ 8 ∧ T as K h (fun v K' h' => K' = K ∧ nx L (v.toList ++ r) K h' ce sl)
  | none => False
def o_callV (n ci : Nat) (T : jT) : jO := fun _ _ nx L st K h ce sl => match jsp n st [] with
  | some (.ref b :: as, r) => jcs r ≤ 8 ∧ job K b = some ci ∧ T (.ref b :: as) K h (fun v K' h' => K' = K ∧ nx L (v.toList ++ r) K h' ce sl)
  | _ => False
theorem jad_eq {ad ad' : Nat → Nat} {n : Nat} (h : ∀ i, i < n ∨ n ≤ i → ad' i = ad i) : ad' = ad := funext fun i => h i (by omega)
theorem so_callS {Γ : jΓ} {Q : jPost} {cc : ByteArray} {own nm : String} {rt : Option FieldType} {ws : List Cond} {fr lo mc ms : Nat} (C : jC Γ cc own nm rt ws fr lo mc ms) {pc : Nat} {index : Nat} {y : MethodName} {bytes : ByteArray} {maxL n fr2 lo2 : Nat} {ret2 : Option FieldType} {ws2 ws3 : List Cond} {T : jT} (g : GoodIn ws (va_wsS own index y ws2)) (hd3 : y.cls ≠ "java/lang/invoke/MethodHandle" ∧ y.cls ≠ "java/lang/invoke/VarHandle" ∧ (parseMethodDescriptor y.desc).map (fun d => d.parameters.length) = some n) (hw2 : ws2 = Cond.code y bytes maxL ret2 :: ws3) (hM : jHolds Γ.2.2.2.2.2.2.2.2.2.2.2.1 Γ.2.1 y ws2 fr2 lo2 0 0 T) (hf1 : fr2 + 1 ≤ fr) (hf2 : 8 + (maxL + 11) + lo2 ≤ lo) (hd : decode cc pc = .ok (.invokestatic index, 3)) : jSA Γ Q pc (o_call n T) 3 := by
  obtain ⟨p, l, e, R, s, m, args, below, meth, c, nL, cl, D, cid, A, ad0, k0, Qf⟩ := Γ
  obtain ⟨hx, hb, hml, hown, hr, hnm, hts, hlocks, hK, hA, hZ, hfr, hlo, hmc, hms, hXt⟩ := C
  intro J nx hJ hn L st K h ce sl ho
  unfold o_call at ho
  split at ho
  · rename_i as r hsp
    obtain ⟨e1, e2⟩ := jsp_st hsp
    obtain ⟨hc8, ho⟩ := ho
    intro hk ad H locs ls h1 h2 h3 h4 h5
    have hAA : ∀ q, va_A (jw cid ad K h) H.size q → A q := fun q hq => by
      rcases hq with ⟨k, e9, hq⟩ | hq
      · exact h3.2 k _ hq
      · exact hA q (Nat.le_trans h4.1 hq)
    have hpre : ∀ U : State, U.heap = H → s.WarmedH U.vm → jPre cl D cid ad K h H.size U := fun U hU hW =>
      ⟨by rw [hU], hk.2.1, by rw [hU]; exact h2, va_K.moved hW.alike hK, h3.weaken (fun _ _ _ _ => trivial), by rw [hU]; exact jZ_to hZ hW.alike (fun a q1 q2 => h4.2.1 a q1 q2) hAA (fun i hi => h1 i (Or.inr (by have := hk.2.1; omega))), jXt_warm hW hXt⟩
    have hcs : 2 * (F0 m pc ls (st.map (jv ad))).monitorRoom + ((r.map (jv ad)).map fun v => v.category).sum ≤ 8 := lv_room (by rw [jcs_eq]; exact hc8)
    have hrun := va_runS (l := l) (e := e) (R := R) (below := below) (meth := meth) (H := H) (locs := locs) (cells := ce) (slots := sl) (As := as.map (jv ad)) (rest := r.map (jv ad)) (g := F0 m pc ls (st.map (jv ad))) ⟨hx, hb, hml, hown, hts⟩ (hM D cid ad H.size as K h _ ho) (va_cwS n hts g hw2 rfl rfl hd3 ⟨by rw [hfr]; exact hf1, by rw [hlo]; exact hf2⟩) ⟨jPre_blind, fun U hU hW => ⟨rfl, hpre U hU hW⟩⟩ rfl (by rw [List.length_map]; exact e2) h5.1 (by show st.map (jv ad) = _; rw [e1, List.map_append, List.map_reverse]) hcs hd hk.2.2
    refine j_after hrun h4 hAA hAA (fun v ad' K' h' H1 locs1 g1 g2 g3 g4 g5 g6 => ?_)
    obtain ⟨rfl, g3⟩ := g3
    cases jad_eq g2
    have := hn _ _ _ _ _ _ g3 hk ad H1 locs1 ls h1 g4 g5 g6 h5
    rw [List.map_append] at this
    cases v <;> exact this
  · exact ho.elim
theorem so_callSN {Γ : jΓ} {Q : jPost} {cc : ByteArray} {own nm : String} {rt : Option FieldType} {ws : List Cond} {fr lo mc ms : Nat} (C : jC Γ cc own nm rt ws fr lo mc ms) {pc : Nat} {index : Nat} {y : MethodName} {bytes : ByteArray} {maxL n fr2 lo2 : Nat} {ret2 : Option FieldType} {ws2 ws3 : List Cond} {T : jT} {host : String} (g : GoodIn ws ws2) (hnl : (own, index, y, host) ∈ jnw) (hini : Cond.initialized y.cls ∈ ws) (hst : Cond.static y ∈ ws) (hd3 : y.cls ≠ "java/lang/invoke/MethodHandle" ∧ y.cls ≠ "java/lang/invoke/VarHandle" ∧ (parseMethodDescriptor y.desc).map (fun d => d.parameters.length) = some n) (hw2 : ws2 = Cond.code y bytes maxL ret2 :: ws3) (hM : jHolds Γ.2.2.2.2.2.2.2.2.2.2.2.1 Γ.2.1 y ws2 fr2 lo2 0 0 T) (hf1 : fr2 + 1 ≤ fr) (hf2 : 8 + (maxL + 11) + lo2 ≤ lo) (hd : decode cc pc = .ok (.invokestatic index, 3)) : jSA Γ Q pc (o_call n T) 3 := by
  obtain ⟨p, l, e, R, s, m, args, below, meth, c, nL, cl, D, cid, A, ad0, k0, Qf⟩ := Γ
  obtain ⟨hx, hb, hml, hown, hr, hnm, hts, hlocks, hK, hA, hZ, hfr, hlo, hmc, hms, hXt⟩ := C
  intro J nx hJ hn L st K h ce sl ho
  unfold o_call at ho
  split at ho
  · rename_i as r hsp
    obtain ⟨e1, e2⟩ := jsp_st hsp
    obtain ⟨hc8, ho⟩ := ho
    intro hk ad H locs ls h1 h2 h3 h4 h5
    have hAA : ∀ q, va_A (jw cid ad K h) H.size q → A q := fun q hq => by
      rcases hq with ⟨k, e9, hq⟩ | hq
      · exact h3.2 k _ hq
      · exact hA q (Nat.le_trans h4.1 hq)
    have hpre : ∀ U : State, U.heap = H → s.WarmedH U.vm → jPre cl D cid ad K h H.size U := fun U hU hW =>
      ⟨by rw [hU], hk.2.1, by rw [hU]; exact h2, va_K.moved hW.alike hK, h3.weaken (fun _ _ _ _ => trivial), by rw [hU]; exact jZ_to hZ hW.alike (fun a q1 q2 => h4.2.1 a q1 q2) hAA (fun i hi => h1 i (Or.inr (by have := hk.2.1; omega))), jXt_warm hW hXt⟩
    have hcs : 2 * (F0 m pc ls (st.map (jv ad))).monitorRoom + ((r.map (jv ad)).map fun v => v.category).sum ≤ 8 := lv_room (by rw [jcs_eq]; exact hc8)
    have hrun := va_runSN (l := l) (e := e) (R := R) (below := below) (meth := meth) (H := H) (locs := locs) (cells := ce) (slots := sl) (As := as.map (jv ad)) (rest := r.map (jv ad)) (g := F0 m pc ls (st.map (jv ad))) ⟨hx, hb, hml, hown, hts⟩ (hM D cid ad H.size as K h _ ho) (⟨va_cnB n hts g hw2 rfl rfl (hXt.1 _ hnl) (hts _ hini) hd3 ⟨by rw [hfr]; exact hf1, by rw [hlo]; exact hf2⟩, hts _ hst, trivial⟩) ⟨jPre_blind, fun U hU hW => ⟨rfl, hpre U hU hW⟩⟩ rfl (by rw [List.length_map]; exact e2) h5.1 (by show st.map (jv ad) = _; rw [e1, List.map_append, List.map_reverse]) hcs hd hk.2.2
    refine j_after hrun h4 hAA hAA (fun v ad' K' h' H1 locs1 g1 g2 g3 g4 g5 g6 => ?_)
    obtain ⟨rfl, g3⟩ := g3
    cases jad_eq g2
    have := hn _ _ _ _ _ _ g3 hk ad H1 locs1 ls h1 g4 g5 g6 h5
    rw [List.map_append] at this
    cases v <;> exact this
  · exact ho.elim
theorem so_callV {Γ : jΓ} {Q : jPost} {cc : ByteArray} {own nm : String} {rt : Option FieldType} {ws : List Cond} {fr lo mc ms : Nat} (C : jC Γ cc own nm rt ws fr lo mc ms) {pc : Nat} {index : Nat} {y : MethodName} {bytes : ByteArray} {maxL n fr2 lo2 : Nat} {ret2 : Option FieldType} {ws2 ws3 : List Cond} {T : jT} {Cn : String} {Tn : u_T} {N ci : Nat} (hc : Γ.2.2.2.2.2.2.2.2.2.2.2.1[ci]? = some (Cn, Tn, N)) (g : GoodIn ws (wsV own index Cn y ws2)) (hd3 : y.cls = Cn ∧ y.cls ≠ "java/lang/invoke/MethodHandle" ∧ y.cls ≠ "java/lang/invoke/VarHandle" ∧ (parseMethodDescriptor y.desc).map (fun d => d.parameters.length) = some n) (hw2 : ws2 = Cond.code y bytes maxL ret2 :: ws3) (hM : jHolds Γ.2.2.2.2.2.2.2.2.2.2.2.1 Γ.2.1 y ws2 fr2 lo2 0 0 T) (hf1 : fr2 + 1 ≤ fr) (hf2 : 8 + (maxL + 11) + lo2 ≤ lo) (hd : decode cc pc = .ok (.invokevirtual index, 3)) : jSA Γ Q pc (o_callV (n + 1) ci T) 3 := by
  obtain ⟨p, l, e, R, s, m, args, below, meth, c, nL, cl, D, cid, A, ad0, k0, Qf⟩ := Γ
  obtain ⟨hx, hb, hml, hown, hr, hnm, hts, hlocks, hK, hA, hZ, hfr, hlo, hmc, hms, hXt⟩ := C
  intro J nx hJ hn L st K h ce sl ho
  unfold o_callV at ho
  split at ho
  · rename_i b as r hsp
    obtain ⟨e1, e2⟩ := jsp_st hsp
    obtain ⟨hc8, hjob, ho⟩ := ho
    obtain ⟨fs, hjob⟩ := job_eq hjob
    intro hk ad H locs ls h1 h2 h3 h4 h5
    have hAA : ∀ q, va_A (jw cid ad K h) H.size q → A q := fun q hq => by
      rcases hq with ⟨k, e9, hq⟩ | hq
      · exact h3.2 k _ hq
      · exact hA q (Nat.le_trans h4.1 hq)
    have hpre : ∀ U : State, U.heap = H → s.WarmedH U.vm → jPre cl D cid ad K h H.size U := fun U hU hW =>
      ⟨by rw [hU], hk.2.1, by rw [hU]; exact h2, va_K.moved hW.alike hK, h3.weaken (fun _ _ _ _ => trivial), by rw [hU]; exact jZ_to hZ hW.alike (fun a q1 q2 => h4.2.1 a q1 q2) hAA (fun i hi => h1 i (Or.inr (by have := hk.2.1; omega))), jXt_warm hW hXt⟩
    have hcs : 2 * (F0 m pc ls (st.map (jv ad))).monitorRoom + ((r.map (jv ad)).map fun v => v.category).sum ≤ 8 := lv_room (by rw [jcs_eq]; exact hc8)
    have hrun := va_runV (l := l) (e := e) (R := R) (below := below) (meth := meth) (H := H) (locs := locs) (cells := ce) (slots := sl) (b := ad b) (As := as.map (jv ad)) (rest := r.map (jv ad)) (g := F0 m pc ls (st.map (jv ad))) ⟨hx, hb, hml, hown, hts⟩ (hM D cid ad H.size (.ref b :: as) K h _ ho) (cwV n hts g hw2 rfl rfl hd3 ⟨by rw [hfr]; exact hf1, by rw [hlo]; exact hf2⟩) ⟨jPre_blind, va_recv hK h2 hc (jw_at hjob), fun U hU hW => ⟨rfl, hpre U hU hW⟩⟩ rfl (by rw [List.length_map]; simpa using e2) h5.1 (by show st.map (jv ad) = _; rw [e1, List.reverse_cons, List.append_assoc, List.map_append, List.map_reverse]; rfl) hcs hd hk.2.2
    refine j_after hrun h4 hAA hAA (fun v ad' K' h' H1 locs1 g1 g2 g3 g4 g5 g6 => ?_)
    obtain ⟨rfl, g3⟩ := g3
    cases jad_eq g2
    have := hn _ _ _ _ _ _ g3 hk ad H1 locs1 ls h1 g4 g5 g6 h5
    rw [List.map_append] at this
    cases v <;> exact this
  · exact ho.elim
/-- what is owed at the end -/
def jR (Γ : jΓ) (Q : jPost) (mc ms : Nat) : Prop := match Γ with
  | (p, l, e, R, s, m, args, below, meth, c, nL, cl, D, cid, A, ad0, k0, Qf) => ∃ (K0 : List jK) (h0 : jM), k0 = K0.length ∧ A = va_A (jw cid ad0 K0 h0) s.heap.size ∧ Qf = MQ below (jQ cl D cid ad0 K0 h0 s.heap.size Q) args s mc ms A
def o_ireti : jO := fun _ Q _ L st K h ce sl => match st with
  | [.int x] => Q (some (.int x)) K h
  | _ => False
theorem so_ireti {Γ : jΓ} {Q : jPost} {cc : ByteArray} {own nm : String} {ws : List Cond} {fr lo mc ms : Nat} (C : jC Γ cc own nm (some .int) ws fr lo mc ms) {pc : Nat} (hR : jR Γ Q mc ms) (hd : decode cc pc = .ok (.ireturn, 1)) : jSA Γ Q pc o_ireti 1 := by
  obtain ⟨p, l, e, R, s, m, args, below, meth, c, nL, cl, D, cid, A, ad0, k0, Qf⟩ := Γ
  obtain ⟨hx, hb, hml, hown, hr, hnm, hts, hlocks, hK, hA, hZ, hfr, hlo, hmc, hms, hXt⟩ := C
  intro J nx hJ hn L st K h ce sl ho
  obtain ⟨K0, h0, rfl, rfl, rfl⟩ := hR
  unfold o_ireti at ho
  split at ho
  · rename_i x
    skip
    intro hk ad H locs ls h1 h2 h3 h4 h5
    refine W.widen (k := mc) (n := ms) (by rw [← hmc]; exact hk.2.2.1) (by rw [← hms]; exact hk.2.2.2) ?_
    exact W.iret hx hb hr (fun t ht hW => ⟨⟨some (.int x), ad, K, h, rfl, ⟨hk.1, hk.2.1⟩, h1, ho, by rw [ht]; exact h2, h3⟩, h4.F ht⟩) h4.2.2 hd
  · exact ho.elim
def o_iretz : jO := fun _ Q _ L st K h ce sl => match st with
  | [.int x] => (x = 0 ∨ x = 1) ∧ Q (some (.int x)) K h
  | _ => False
theorem so_iretz {Γ : jΓ} {Q : jPost} {cc : ByteArray} {own nm : String} {ws : List Cond} {fr lo mc ms : Nat} (C : jC Γ cc own nm (some .boolean) ws fr lo mc ms) {pc : Nat} (hR : jR Γ Q mc ms) (hd : decode cc pc = .ok (.ireturn, 1)) : jSA Γ Q pc o_iretz 1 := by
  obtain ⟨p, l, e, R, s, m, args, below, meth, c, nL, cl, D, cid, A, ad0, k0, Qf⟩ := Γ
  obtain ⟨hx, hb, hml, hown, hr, hnm, hts, hlocks, hK, hA, hZ, hfr, hlo, hmc, hms, hXt⟩ := C
  intro J nx hJ hn L st K h ce sl ho
  obtain ⟨K0, h0, rfl, rfl, rfl⟩ := hR
  unfold o_iretz at ho
  split at ho
  · rename_i x
    obtain ⟨hx01, ho⟩ := ho
    intro hk ad H locs ls h1 h2 h3 h4 h5
    refine W.widen (k := mc) (n := ms) (by rw [← hmc]; exact hk.2.2.1) (by rw [← hms]; exact hk.2.2.2) ?_
    exact W.zret hx hb hr (by rcases hx01 with rfl | rfl <;> rfl) (fun t ht hW => ⟨⟨some (.int x), ad, K, h, rfl, ⟨hk.1, hk.2.1⟩, h1, ho, by rw [ht]; exact h2, h3⟩, h4.F ht⟩) h4.2.2 hd
  · exact ho.elim
def o_lret : jO := fun _ Q _ L st K h ce sl => match st with
  | [.long x] => Q (some (.long x)) K h
  | _ => False
theorem so_lret {Γ : jΓ} {Q : jPost} {cc : ByteArray} {own nm : String} {ws : List Cond} {fr lo mc ms : Nat} (C : jC Γ cc own nm (some .long) ws fr lo mc ms) {pc : Nat} (hR : jR Γ Q mc ms) (hd : decode cc pc = .ok (.lreturn, 1)) : jSA Γ Q pc o_lret 1 := by
  obtain ⟨p, l, e, R, s, m, args, below, meth, c, nL, cl, D, cid, A, ad0, k0, Qf⟩ := Γ
  obtain ⟨hx, hb, hml, hown, hr, hnm, hts, hlocks, hK, hA, hZ, hfr, hlo, hmc, hms, hXt⟩ := C
  intro J nx hJ hn L st K h ce sl ho
  obtain ⟨K0, h0, rfl, rfl, rfl⟩ := hR
  unfold o_lret at ho
  split at ho
  · rename_i x
    skip
    intro hk ad H locs ls h1 h2 h3 h4 h5
    refine W.widen (k := mc) (n := ms) (by rw [← hmc]; exact hk.2.2.1) (by rw [← hms]; exact hk.2.2.2) ?_
    exact W.lret hx hb hr (fun t ht hW => ⟨⟨some (.long x), ad, K, h, rfl, ⟨hk.1, hk.2.1⟩, h1, ho, by rw [ht]; exact h2, h3⟩, h4.F ht⟩) h4.2.2 hd
  · exact ho.elim
def o_vret : jO := fun _ Q _ L st K h ce sl => match st with
  | [] => Q (none) K h
  | _ => False
theorem so_vret {Γ : jΓ} {Q : jPost} {cc : ByteArray} {own nm : String} {ws : List Cond} {fr lo mc ms : Nat} (C : jC Γ cc own nm (none) ws fr lo mc ms) {pc : Nat} (hR : jR Γ Q mc ms) (hd : decode cc pc = .ok (.return_, 1)) : jSA Γ Q pc o_vret 1 := by
  obtain ⟨p, l, e, R, s, m, args, below, meth, c, nL, cl, D, cid, A, ad0, k0, Qf⟩ := Γ
  obtain ⟨hx, hb, hml, hown, hr, hnm, hts, hlocks, hK, hA, hZ, hfr, hlo, hmc, hms, hXt⟩ := C
  intro J nx hJ hn L st K h ce sl ho
  obtain ⟨K0, h0, rfl, rfl, rfl⟩ := hR
  unfold o_vret at ho
  split at ho
  · skip
    skip
    intro hk ad H locs ls h1 h2 h3 h4 h5
    refine W.widen (k := mc) (n := ms) (by rw [← hmc]; exact hk.2.2.1) (by rw [← hms]; exact hk.2.2.2) ?_
    exact W.vret hx hb hr (fun t ht hW => ⟨⟨none, ad, K, h, rfl, ⟨hk.1, hk.2.1⟩, h1, ho, by rw [ht]; exact h2, h3⟩, h4.F ht⟩) h4.2.2 hd
  · exact ho.elim
def jia : List Value → jL
  | [] => []
  | v :: vs => if v.category = 2 then some v :: none :: jia vs else some v :: jia vs
def jinit (vs : List Value) (n : Nat) : jL := jia vs ++ List.replicate (n - (jia vs).length) none
theorem jg_app_none : ∀ (L : jL) (k i : Nat) (v : Value), jg (L ++ List.replicate k none) i = some v → jg L i = some v
  | [], 0, i, v, h => h
  | [], k + 1, 0, v, h => by cases h
  | [], k + 1, i + 1, v, h => by
    have := jg_app_none [] k i v h
    cases this
  | a :: L, k, 0, v, h => h
  | a :: L, k, i + 1, v, h => jg_app_none L k i v h
theorem jia_mem : ∀ (vs : List Value) (j i : Nat) (w : Value), jg (jia vs) j = some w → (i + j, w) ∈ lv_args i vs
  | [], j, i, w, h => by cases h
  | v :: vs, j, i, w, h => by
    unfold jia at h
    unfold lv_args
    by_cases hc : v.category = 2
    · rw [if_pos hc] at h ⊢
      match j, h with
      | 0, h => cases h; exact List.mem_cons_self
      | 1, h => cases h
      | j + 2, h =>
        have := jia_mem vs j (i + 2) w h
        exact List.mem_cons_of_mem _ (by rw [show i + (j + 2) = i + 2 + j by omega]; exact this)
    · rw [if_neg hc] at h ⊢
      match j, h with
      | 0, h => cases h; exact List.mem_cons_self
      | j + 1, h =>
        have := jia_mem vs j (i + 1) w h
        exact List.mem_cons_of_mem _ (by rw [show i + (j + 1) = i + 1 + j by omega]; exact this)
theorem lv_args_v (ad : Nat → Nat) : ∀ (vs : List Value) (i : Nat), lv_args i (vs.map (jv ad)) = (lv_args i vs).map (fun q => (q.1, jv ad q.2))
  | [], i => rfl
  | v :: vs, i => by
    simp only [List.map_cons, lv_args, jv_cat, lv_args_v ad vs]
theorem jMet {cl : List vw_C} {l : Launch} {y : MethodName} {cc : ByteArray} {maxL fr lo mc ms : Nat} {rt : Option FieldType} {ws ws' : List Cond} {T : jT} (hy : plainName y.cls = true) (hw : ws = Cond.code y cc maxL rt :: ws')
    (hb : ∀ (Γ : jΓ) (Q : jPost) (vs : List Value) (K : List jK) (h : jM), Γ.2.1 = l → Γ.2.2.2.2.2.2.2.2.2.2.1 = maxL → Γ.2.2.2.2.2.2.2.2.2.2.2.1 = cl → jC Γ cc y.cls y.name rt ws fr lo mc ms → jR Γ Q mc ms → T vs K h Q → (lg_sl vs).length ≤ maxL ∧ jG Γ 0 (jinit vs maxL) [] K h 0 0) : jHolds cl l y ws fr lo mc ms T := by
  intro D cid ad sz vs K h Q hT
  refine Met.ofW (cc := cc) (maxL := maxL) (ret := rt) hy hw ?_
  intro p e s m args below meth c s₁ B hml hv
  obtain ⟨rfl, rfl, hlen, hP, hK, hD, hZ, hXt⟩ := hv
  obtain ⟨hle, hG⟩ := hb (p, l, e, (headSpec ws { frames := fr, cells := mc, slots := ms, locals := lo }).room, s, m, (vs.map (jv ad)).toArray, below, meth, c, maxL, cl, D, cid, va_A (jw cid ad K h) s.heap.size, ad, K.length, MQ below (jQ cl D cid ad K h s.heap.size Q) (vs.map (jv ad)).toArray s mc ms (va_A (jw cid ad K h) s.heap.size)) Q vs K h rfl rfl rfl
    ⟨B.exec, B.bytes, hml, findClass_of_methodNamed B.named, B.returns, (name_of_methodNamed B.named B.method).1, atoms_spec (ws := ws) B.pre, B.notSynchronized, hK, fun q hq => Or.inr hq, hZ, rfl, rfl, rfl, rfl, hXt⟩ ⟨K, h, rfl, rfl, rfl⟩ hT
  have hll : (lg_sl (vs.map (jv ad))).length ≤ maxL := by
    have : (lg_sl (vs.map (jv ad))).length = (lg_sl vs).length := jsl_len ad vs
    omega
  have hl := lv_entry (vs.map (jv ad)) (n := maxL) hll
  rw [lg_entry_eq]
  refine hG ⟨Nat.le_refl _, hlen, Nat.zero_le _, Nat.zero_le _⟩ ad s.heap [] _ (fun i _ => rfl) hP hD.self va_S.rf ⟨hl.1, hl.2.1, fun q hq => hl.2.2 q ?_⟩
  obtain ⟨j, w⟩ := q
  obtain ⟨u, hu, rfl⟩ := (jasc_mem ad _ j w).mp hq
  have h1 := jia_mem vs j 0 u (jg_app_none _ _ _ _ hu)
  rw [Nat.zero_add] at h1
  rw [lv_args_v]
  exact List.mem_map.mpr ⟨(j, u), h1, rfl⟩
