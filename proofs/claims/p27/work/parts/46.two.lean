/-! ===== methods that read the script, reference 2000 ===== -/
def o_slen (LL : Nat) : jO := fun _ _ nx L st K h ce sl => match st with
  | .ref a :: r => a = 2000 ∧ nx L (.int (nI LL) :: r) K h ce sl
  | _ => False
def o_sld (LL : Nat) (xs : Nat → Int32) : jO := fun _ _ nx L st K h ce sl => match st with
  | .int i :: .ref a :: r => a = 2000 ∧ vp_in i LL ∧ nx L (.int (xs i.toNatClampNeg) :: r) K h ce sl
  | _ => False
def jSc (Γ : jΓ) (b LL : Nat) (xs : Nat → Int32) : Prop := match Γ with
  | (p, l, e, R, s, m, args, below, meth, c, nL, cl, D, cid, A, ad0, k0, Qf) => va_X b LL xs s s.heap ∧ b < s.heap.size ∧ ¬ A b ∧ ad0 2000 = b
theorem so_slen {Γ : jΓ} {Q : jPost} {cc : ByteArray} {own nm : String} {rt : Option FieldType} {ws : List Cond} {fr lo mc ms : Nat} (C : jC Γ cc own nm rt ws fr lo mc ms) {b LL : Nat} {xs : Nat → Int32} (S : jSc Γ b LL xs) {pc : Nat} (hd : decode cc pc = .ok (.arraylength, 1)) : jSA Γ Q pc (o_slen LL) 1 := by
  obtain ⟨p, l, e, R, s, m, args, below, meth, c, nL, cl, D, cid, A, ad0, k0, Qf⟩ := Γ
  obtain ⟨hx, hb, hml, hown, hr, hnm, hts, hlocks, hK, hA, hZ, hfr, hlo, hmc, hms, hXt⟩ := C
  obtain ⟨hX, hbl, hbA, hb2⟩ := S
  intro J nx hJ hn L st K h ce sl ho
  unfold o_slen at ho
  split at ho
  · rename_i a r
    obtain ⟨rfl, ho⟩ := ho
    intro hk ad H locs ls h1 h2 h3 h4 h5
    have hlen := hk.2.1
    have e : ad 2000 = b := (h1 2000 (Or.inr (by omega))).trans hb2
    have h9 := hn _ _ _ _ _ _ ho hk ad H locs ls h1 h2 h3 h4 h5
    simp only [List.map_cons, jv, e] at h9 ⊢
    exact va_slen hx hb hX hbl hbA h4 hd h9
  · exact ho.elim
theorem so_sld {Γ : jΓ} {Q : jPost} {cc : ByteArray} {own nm : String} {rt : Option FieldType} {ws : List Cond} {fr lo mc ms : Nat} (C : jC Γ cc own nm rt ws fr lo mc ms) {b LL : Nat} {xs : Nat → Int32} (S : jSc Γ b LL xs) {pc : Nat} (hd : decode cc pc = .ok (.iaload, 1)) : jSA Γ Q pc (o_sld LL xs) 1 := by
  obtain ⟨p, l, e, R, s, m, args, below, meth, c, nL, cl, D, cid, A, ad0, k0, Qf⟩ := Γ
  obtain ⟨hx, hb, hml, hown, hr, hnm, hts, hlocks, hK, hA, hZ, hfr, hlo, hmc, hms, hXt⟩ := C
  obtain ⟨hX, hbl, hbA, hb2⟩ := S
  intro J nx hJ hn L st K h ce sl ho
  unfold o_sld at ho
  split at ho
  · rename_i i a r
    obtain ⟨rfl, hin, ho⟩ := ho
    intro hk ad H locs ls h1 h2 h3 h4 h5
    have hlen := hk.2.1
    have e : ad 2000 = b := (h1 2000 (Or.inr (by omega))).trans hb2
    have h9 := hn _ _ _ _ _ _ ho hk ad H locs ls h1 h2 h3 h4 h5
    simp only [List.map_cons, jv, e] at h9 ⊢
    exact va_sld hx hb hX hbl hbA h4 hin hd h9
  · exact ho.elim
/-- a method's start, with the script -/
def jSx (ad : Nat → Nat) (LL : Nat) (xs : Nat → Int32) (A : Nat → Prop) (U : State) : Prop := va_X (ad 2000) LL xs U U.heap ∧ ad 2000 < U.heap.size ∧ ¬ A (ad 2000)
def jPreS (LL : Nat) (xs : Nat → Int32) (cl : List vw_C) (D : va_G) (cid : Nat → ClassId) (ad : Nat → Nat) (K : List jK) (h : jM) (sz : Nat) (U : State) : Prop := jPre cl D cid ad K h sz U ∧ jSx ad LL xs (va_A (jw cid ad K h) sz) U
def jHoldsS (LL : Nat) (xs : Nat → Int32) (cl : List vw_C) (l : Launch) (y : MethodName) (ws : List Cond) (fr lo mc ms : Nat) (T : jT) : Prop := ∀ (D : va_G) (cid : Nat → ClassId) (ad : Nat → Nat) (sz : Nat) (vs : List Value) (K : List jK) (h : jM) (Q : jPost), T vs K h Q → Met l y ws { frames := fr, cells := mc, slots := ms, locals := lo } (va_Pc (vs.map (jv ad)) (jPreS LL xs cl D cid ad K h sz)) (jQ cl D cid ad K h sz Q) mc ms (va_A (jw cid ad K h) sz)
theorem jPreS_blind {LL : Nat} {xs : Nat → Int32} {cl : List vw_C} {D : va_G} {cid : Nat → ClassId} {ad : Nat → Nat} {K : List jK} {h : jM} {sz : Nat} {vs : List Value} : FrameBlind (va_Pc vs (jPreS LL xs cl D cid ad K h sz)) := by
  intro a U g mk q
  obtain ⟨q0, ⟨q1, q2, q3, q4, q5, q6, q7⟩, q8, q9⟩ := q
  exact ⟨q0, ⟨q1, q2, q3, va_K.moved (u := U) (U := U.calling g mk a) (Vm.Alike.refl U.vm) q4, q5, jZ_to' (U := U.calling g mk a) (Vm.Alike.refl U.vm) q6, jXt_same (U := U.calling g mk a) rfl q7⟩, va_X.moved (u := U) (U := U.calling g mk a) (Vm.Alike.refl U.vm) q8, q9⟩
/-- the script as a callee finds it -/
theorem j_sx {ad : Nat → Nat} {A B : Nat → Prop} {s U : State} {H : Heap} {locs : List Loc} {b LL : Nat} {xs : Nat → Int32} (hX : va_X b LL xs s s.heap) (hbl : b < s.heap.size) (hbA : ¬ A b) (e : ad 2000 = b) (hS : va_S A s.heap H locs) (hBA : ∀ q, B q → A q) (hU : U.heap = H) (hW : s.WarmedH U.vm) : jSx ad LL xs B U := by
  unfold jSx
  rw [e]
  exact ⟨va_X.moved hW.alike (va_X.kept hX (by rw [hU]; exact hS.2.1 b hbl hbA)), by rw [hU]; exact Nat.lt_of_lt_of_le hbl hS.1, fun z => hbA (hBA _ z)⟩
theorem jMetS {LL : Nat} {xs : Nat → Int32} {cl : List vw_C} {l : Launch} {y : MethodName} {cc : ByteArray} {maxL fr lo mc ms : Nat} {rt : Option FieldType} {ws ws' : List Cond} {T : jT} (hy : plainName y.cls = true) (hw : ws = Cond.code y cc maxL rt :: ws')
    (hb : ∀ (Γ : jΓ) (Q : jPost) (vs : List Value) (K : List jK) (h : jM), Γ.2.1 = l → Γ.2.2.2.2.2.2.2.2.2.2.1 = maxL → Γ.2.2.2.2.2.2.2.2.2.2.2.1 = cl → jC Γ cc y.cls y.name rt ws fr lo mc ms → (∃ b, jSc Γ b LL xs) → jR Γ Q mc ms → T vs K h Q → (lg_sl vs).length ≤ maxL ∧ jG Γ 0 (jinit vs maxL) [] K h 0 0) : jHoldsS LL xs cl l y ws fr lo mc ms T := by
  intro D cid ad sz vs K h Q hT
  refine Met.ofW (cc := cc) (maxL := maxL) (ret := rt) hy hw ?_
  intro p e s m args below meth c s₁ B hml hv
  obtain ⟨rfl, ⟨rfl, hlen, hP, hK, hD, hZ, hXt⟩, hsX, hsl, hsA⟩ := hv
  obtain ⟨hle, hG⟩ := hb (p, l, e, (headSpec ws { frames := fr, cells := mc, slots := ms, locals := lo }).room, s, m, (vs.map (jv ad)).toArray, below, meth, c, maxL, cl, D, cid, va_A (jw cid ad K h) s.heap.size, ad, K.length, MQ below (jQ cl D cid ad K h s.heap.size Q) (vs.map (jv ad)).toArray s mc ms (va_A (jw cid ad K h) s.heap.size)) Q vs K h rfl rfl rfl
    ⟨B.exec, B.bytes, hml, findClass_of_methodNamed B.named, B.returns, (name_of_methodNamed B.named B.method).1, atoms_spec (ws := ws) B.pre, B.notSynchronized, hK, fun q hq => Or.inr hq, hZ, rfl, rfl, rfl, rfl, hXt⟩ ⟨ad 2000, hsX, hsl, hsA, rfl⟩ ⟨K, h, rfl, rfl, rfl⟩ hT
  have hll : (lg_sl (vs.map (jv ad))).length ≤ maxL := by
    have : (lg_sl (vs.map (jv ad))).length = (lg_sl vs).length := jsl_len ad vs
    omega
  have hl := lv_entry (vs.map (jv ad)) (n := maxL) hll
  rw [lg_entry_eq]
  refine hG ⟨Nat.le_refl _, hlen, Nat.zero_le _, Nat.zero_le _⟩ ad s.heap [] _ (fun i _ => rfl) hP hD.self va_S.rf ⟨hl.1, hl.2.1, fun q hq => hl.2.2 q ?_⟩
  obtain ⟨j, w⟩ := q
  obtain ⟨u, hu, rfl⟩ := (jasc_mem ad _ j w).mp hq
  have h1 := jia_mem vs j 0 u (jg_app_none _ _ _ _ hu)
  rw [Nat.zero_add] at h1
  rw [lv_args_v]
  exact List.mem_map.mpr ⟨(j, u), h1, rfl⟩
theorem so_callSS {Γ : jΓ} {Q : jPost} {cc : ByteArray} {own nm : String} {rt : Option FieldType} {ws : List Cond} {fr lo mc ms : Nat} (C : jC Γ cc own nm rt ws fr lo mc ms) {b0 LL : Nat} {xs : Nat → Int32} (S : jSc Γ b0 LL xs) {pc : Nat} {index : Nat} {y : MethodName} {bytes : ByteArray} {maxL n fr2 lo2 : Nat} {ret2 : Option FieldType} {ws2 ws3 : List Cond} {T : jT} (g : GoodIn ws (va_wsS own index y ws2)) (hd3 : y.cls ≠ "java/lang/invoke/MethodHandle" ∧ y.cls ≠ "java/lang/invoke/VarHandle" ∧ (parseMethodDescriptor y.desc).map (fun d => d.parameters.length) = some n) (hw2 : ws2 = Cond.code y bytes maxL ret2 :: ws3) (hM : jHoldsS LL xs Γ.2.2.2.2.2.2.2.2.2.2.2.1 Γ.2.1 y ws2 fr2 lo2 0 0 T) (hf1 : fr2 + 1 ≤ fr) (hf2 : 8 + (maxL + 11) + lo2 ≤ lo) (hd : decode cc pc = .ok (.invokestatic index, 3)) : jSA Γ Q pc (o_call n T) 3 := by
  obtain ⟨p, l, e, R, s, m, args, below, meth, c, nL, cl, D, cid, A, ad0, k0, Qf⟩ := Γ
  obtain ⟨hX, hbl, hbA, hb2⟩ := S
  obtain ⟨hx, hb, hml, hown, hr, hnm, hts, hlocks, hK, hA, hZ, hfr, hlo, hmc, hms, hXt⟩ := C
  intro J nx hJ hn L st K h ce sl ho
  unfold o_call at ho
  split at ho
  · rename_i as r hsp
    obtain ⟨e1, e2⟩ := jsp_st hsp
    obtain ⟨hc8, ho⟩ := ho
    intro hk ad H locs ls h1 h2 h3 h4 h5
    have hAA : ∀ q, va_A (jw cid ad K h) H.size q → A q := fun q hq => by
      rcases hq with ⟨k, e9, hq⟩ | hq
      · exact h3.2 k _ hq
      · exact hA q (Nat.le_trans h4.1 hq)
    have hpre : ∀ U : State, U.heap = H → s.WarmedH U.vm → jPreS LL xs cl D cid ad K h H.size U := fun U hU hW =>
      ⟨⟨by rw [hU], hk.2.1, by rw [hU]; exact h2, va_K.moved hW.alike hK, h3.weaken (fun _ _ _ _ => trivial), by rw [hU]; exact jZ_to hZ hW.alike (fun a q1 q2 => h4.2.1 a q1 q2) hAA (fun i hi => h1 i (Or.inr (by have := hk.2.1; omega))), jXt_warm hW hXt⟩, j_sx hX hbl hbA ((h1 2000 (Or.inr (by have := hk.2.1; omega))).trans hb2) h4 hAA hU hW⟩
    have hcs : 2 * (F0 m pc ls (st.map (jv ad))).monitorRoom + ((r.map (jv ad)).map fun v => v.category).sum ≤ 8 := lv_room (by rw [jcs_eq]; exact hc8)
    have hrun := va_runS (l := l) (e := e) (R := R) (below := below) (meth := meth) (H := H) (locs := locs) (cells := ce) (slots := sl) (As := as.map (jv ad)) (rest := r.map (jv ad)) (g := F0 m pc ls (st.map (jv ad))) ⟨hx, hb, hml, hown, hts⟩ (hM D cid ad H.size as K h _ ho) (va_cwS n hts g hw2 rfl rfl hd3 ⟨by rw [hfr]; exact hf1, by rw [hlo]; exact hf2⟩) ⟨jPreS_blind, fun U hU hW => ⟨rfl, hpre U hU hW⟩⟩ rfl (by rw [List.length_map]; exact e2) h5.1 (by show st.map (jv ad) = _; rw [e1, List.map_append, List.map_reverse]) hcs hd hk.2.2
    refine j_after hrun h4 hAA hAA (fun v ad' K' h' H1 locs1 g1 g2 g3 g4 g5 g6 => ?_)
    obtain ⟨rfl, g3⟩ := g3
    cases jad_eq g2
    have := hn _ _ _ _ _ _ g3 hk ad H1 locs1 ls h1 g4 g5 g6 h5
    rw [List.map_append] at this
    cases v <;> exact this
  · exact ho.elim
/-- a static call with the second object and the script -/
def o_sS1 (T : jT) : jO := fun _ _ nx L st K h ce sl => match jsp 2 st [] with
  | some ([.ref b, .ref c], r) => jcs r ≤ 8 ∧ b = 37 ∧ c = 2000 ∧ K = KT ∧ ∃ a q : jM, h = jm2 a q ∧ T [.ref 0, .ref 2000] KX q (fun v K' q' => K' = KX ∧ jprO v = true ∧ nx L (v.toList ++ r) KT (jm2 a q') ce sl)
  | _ => False
theorem so_sS1 {Γ : jΓ} {Q : jPost} {cc : ByteArray} {own nm : String} {rt : Option FieldType} {ws : List Cond} {fr lo mc ms : Nat} (C : jC Γ cc own nm rt ws fr lo mc ms) {b0 LL : Nat} {xs : Nat → Int32} (S : jSc Γ b0 LL xs) {pc : Nat} {index : Nat} {y : MethodName} {bytes : ByteArray} {maxL fr2 lo2 : Nat} {ret2 : Option FieldType} {ws2 ws3 : List Cond} {T : jT} (g : GoodIn ws (va_wsS own index y ws2)) (hd3 : y.cls ≠ "java/lang/invoke/MethodHandle" ∧ y.cls ≠ "java/lang/invoke/VarHandle" ∧ (parseMethodDescriptor y.desc).map (fun d => d.parameters.length) = some 2) (hw2 : ws2 = Cond.code y bytes maxL ret2 :: ws3) (hM : jHoldsS LL xs Γ.2.2.2.2.2.2.2.2.2.2.2.1 Γ.2.1 y ws2 fr2 lo2 0 0 T) (hf1 : fr2 + 1 ≤ fr) (hf2 : 8 + (maxL + 11) + lo2 ≤ lo) (hd : decode cc pc = .ok (.invokestatic index, 3)) : jSA Γ Q pc (o_sS1 T) 3 := by
  obtain ⟨p, l, e, R, s, m, args, below, meth, c, nL, cl, D, cid, A, ad0, k0, Qf⟩ := Γ
  obtain ⟨hX, hbl, hbA, hb2⟩ := S
  obtain ⟨hx, hb, hml, hown, hr, hnm, hts, hlocks, hK, hA, hZ, hfr, hlo, hmc, hms, hXt⟩ := C
  intro J nx hJ hn L st K h ce sl ho
  unfold o_sS1 at ho
  split at ho
  · rename_i b c1 r hsp
    obtain ⟨e1, e2⟩ := jsp_st hsp
    obtain ⟨hc8, rfl, rfl, rfl, a, q, rfl, ho⟩ := ho
    intro hk ad H locs ls h1 h2 h3 h4 h5
    have eW : ∀ a q, jw cid ad KT (jm2 a q) = jw cid ad KX a ++ jw cid (jadB 37 ad) KX q := fun a q => jw_two KX_lo9 (by decide) (fun _ _ => rfl)
    rw [eW] at h2 h3
    have e9 : ∀ i, 1000 ≤ i → jadB 37 ad i = ad0 i := fun i hi => by
      have : jadB 37 ad i = ad i := if_neg (by omega)
      rw [this]
      exact h1 i (Or.inr (by rw [KT_len]; omega))
    have hAA : ∀ z, va_A (jw cid (jadB 37 ad) KX q) H.size z → A z := fun z hz => by
      rcases hz with ⟨k, e9, hz⟩ | hz
      · exact (jD_swap h3).2 k _ (by rw [List.getElem?_append_left (List.getElem?_eq_some_iff.mp hz).1]; exact hz)
      · exact hA z (Nat.le_trans h4.1 hz)
    have hpre : ∀ U : State, U.heap = H → s.WarmedH U.vm → jPreS LL xs cl D cid (jadB 37 ad) KX q H.size U := fun U hU hW => ⟨j_pre hK hA hZ hXt (by decide) h2 h3 h4 e9 hU hW, j_sx hX hbl hbA ((e9 2000 (by decide)).trans hb2) h4 hAA hU hW⟩
    have hcs : 2 * (F0 m pc ls (st.map (jv ad))).monitorRoom + ((r.map (jv ad)).map fun v => v.category).sum ≤ 8 := lv_room (by rw [jcs_eq]; exact hc8)
    have hst : st.map (jv ad) = (([.ref 0, .ref 2000] : List Value).map (jv (jadB 37 ad))).reverse ++ r.map (jv ad) := by rw [e1]; rfl
    have hrun := va_runS (l := l) (e := e) (R := R) (below := below) (meth := meth) (H := H) (locs := locs) (cells := ce) (slots := sl) (As := ([.ref 0, .ref 2000] : List Value).map (jv (jadB 37 ad))) (rest := r.map (jv ad)) (g := F0 m pc ls (st.map (jv ad))) ⟨hx, hb, hml, hown, hts⟩ (hM D cid (jadB 37 ad) H.size [.ref 0, .ref 2000] KX q _ ho) (va_cwS 2 hts g hw2 rfl rfl hd3 ⟨by rw [hfr]; exact hf1, by rw [hlo]; exact hf2⟩) ⟨jPreS_blind, fun U hU hW => ⟨rfl, hpre U hU hW⟩⟩ rfl rfl h5.1 hst hcs hd hk.2.2
    refine j_sub hrun h2 h3 h4 hA (fun v ad' K' h' H1 locs1 g1 g2 g3 g4 g5 g6 => ?_)
    obtain ⟨rfl, g0, g3⟩ := g3
    cases jad_eq g2
    have := hn _ _ _ _ _ _ g3 hk ad H1 locs1 ls h1 (by rw [eW]; exact g4) (by rw [eW]; exact g5) g6 h5
    rw [jO_l (ad' := ad) g0]
    exact this
  · exact ho.elim
/-- the second object's constructor -/
def o_ct1 (mc ms mc2 ms2 : Nat) (T : jT) : jO := fun _ _ nx L st K h ce sl => match jsp 1 st [] with
  | some ([.ref b], r) => jcs r ≤ 8 ∧ b = 37 ∧ ce + mc2 ≤ mc ∧ sl + ms2 ≤ ms ∧ jloL 38 L r = true ∧ K = KT1 KB_0 ∧ ∃ a q : jM, (∀ c, c < 38 → h c = jm2 a q c) ∧ T [.ref 0] KB_0 q (fun v K' q' => v = none ∧ K' = KX ∧ nx L r KT (jm2 a q') (ce + mc2) (sl + ms2))
  | _ => False
theorem KB0_lo9 : KB_0.all (jloK 900) = true := by decide +kernel
theorem KT1_len : (KT1 KB_0).length = 38 := rfl
theorem so_ct1 {Γ : jΓ} {Q : jPost} {cc : ByteArray} {own nm : String} {rt : Option FieldType} {ws : List Cond} {fr lo mc ms : Nat} (C : jC Γ cc own nm rt ws fr lo mc ms) {pc : Nat} {index : Nat} {y : MethodName} {bytes : ByteArray} {maxL fr2 lo2 mc2 ms2 : Nat} {ws2 ws3 : List Cond} {T : jT} (g : GoodIn ws ws2) (hini : Cond.initialized y.cls ∈ ws) (hml2 : Cond.methodLink own index y ∈ ws) (him : Cond.instanceMethod y ∈ ws) (hy1 : y.name = "<init>") (hd3 : y.cls ≠ "java/lang/invoke/MethodHandle" ∧ y.cls ≠ "java/lang/invoke/VarHandle" ∧ (parseMethodDescriptor y.desc).map (fun d => d.parameters.length) = some 0) (hw2 : ws2 = Cond.code y bytes maxL none :: ws3) (hM : jHolds Γ.2.2.2.2.2.2.2.2.2.2.2.1 Γ.2.1 y ws2 fr2 lo2 mc2 ms2 T) (hf1 : fr2 + 1 ≤ fr) (hf2 : 8 + (maxL + 11) + lo2 ≤ lo) (hd : decode cc pc = .ok (.invokespecial index, 3)) : jSA Γ Q pc (o_ct1 mc ms mc2 ms2 T) 3 := by
  obtain ⟨p, l, e, R, s, m, args, below, meth, c, nL, cl, D, cid, A, ad0, k0, Qf⟩ := Γ
  obtain ⟨hx, hb, hml, hown, hr, hnm, hts, hlocks, hK, hA, hZ, hfr, hlo, hmc, hms, hXt⟩ := C
  intro J nx hJ hn L st K h ce sl ho
  unfold o_ct1 at ho
  split at ho
  · rename_i b r hsp
    obtain ⟨e1, e2⟩ := jsp_st hsp
    obtain ⟨hc8, rfl, hce, hsl, hlo2, rfl, a, q, hh, ho⟩ := ho
    intro hk ad H locs ls h1 h2 h3 h4 h5
    have eW : jw cid ad (KT1 KB_0) h = jw cid ad KX a ++ jw cid (jadB 37 ad) KB_0 q := jw_two KB0_lo9 (by decide) (fun c hc => hh c hc)
    rw [eW] at h2 h3
    have hpre : ∀ U : State, U.heap = H → s.WarmedH U.vm → jPre cl D cid (jadB 37 ad) KB_0 q H.size U := fun U hU hW => j_pre hK hA hZ hXt (by decide) h2 h3 h4 (fun i hi => by
      have : jadB 37 ad i = ad i := if_neg (by omega)
      rw [this]
      exact h1 i (Or.inr (by rw [KT1_len]; omega))) hU hW
    have hcs : 2 * (F0 m pc ls (st.map (jv ad))).monitorRoom + ((r.map (jv ad)).map fun v => v.category).sum ≤ 8 := lv_room (by rw [jcs_eq]; exact hc8)
    have hst : st.map (jv ad) = ([] : List Value).reverse ++ .ref (jadB 37 ad 0) :: r.map (jv ad) := by rw [e1]; rfl
    have hrun := va_runI (l := l) (e := e) (R := R) (below := below) (meth := meth) (H := H) (locs := locs) (cells := ce) (slots := sl) (b := jadB 37 ad 0) (As := []) (rest := r.map (jv ad)) (g := F0 m pc ls (st.map (jv ad))) ⟨hx, hb, hml, hown, hts⟩ (hM D cid (jadB 37 ad) H.size [.ref 0] KB_0 q _ ho) (cwI 0 hts g hw2 rfl rfl (hts _ hini) (hts _ hml2) (hts _ him) hy1 hd3 ⟨by rw [hfr]; exact hf1, by rw [hlo]; exact hf2⟩) ⟨jPre_blind, fun U hU hW => ⟨rfl, hpre U hU hW⟩⟩ rfl rfl h5.1 hst hcs hd ⟨by rw [hmc]; exact hce, by rw [hms]; exact hsl⟩
    refine j_sub hrun h2 h3 h4 hA (fun v ad' K' h' H1 locs1 g1 g2 g3 g4 g5 g6 => ?_)
    obtain ⟨rfl, rfl, g3⟩ := g3
    obtain ⟨adN, hN⟩ : ∃ adN : Nat → Nat, adN = fun i => if i < 37 then ad i else if i < 74 then ad' (i - 37) else ad i := ⟨_, rfl⟩
    have hNo : ∀ i, i < 38 ∨ 74 ≤ i → adN i = ad i := fun i hi => by
      rw [hN]
      by_cases c1 : i < 37
      · exact if_pos c1
      · show (if i < 37 then ad i else _) = _
        rw [if_neg c1]
        by_cases c2 : i < 74
        · rw [if_pos c2, g2 _ (by left; show i - 37 < 1; omega)]
          have : i = 37 := by omega
          subst this
          rfl
        · rw [if_neg c2]
    have eN : jw cid adN KT (jm2 a h') = jw cid ad KX a ++ jw cid ad' KX h' := by
      have w1 : jw cid adN KX a = jw cid ad KX a := jw_ad KX_lo (fun i hi => hNo i (Or.inl (by rw [KX_len] at hi; omega))) (fun _ _ => rfl)
      have w2 : jw cid (jadB 37 adN) KX h' = jw cid ad' KX h' := by
        refine jw_ad KX_lo (fun i hi => ?_) (fun _ _ => rfl)
        have hi' : i < 37 := hi
        have : jadB 37 adN i = adN (37 + i) := if_pos (by omega)
        rw [this, hN]
        show (if 37 + i < 37 then _ else if 37 + i < 74 then ad' (37 + i - 37) else _) = _
        rw [if_neg (by omega), if_pos (by omega), show 37 + i - 37 = i by omega]
      have w3 : jw cid adN (KT1 KX) (jm2 a h') = jw cid adN KX a ++ jw cid (jadB 37 adN) KX h' := jw_two KX_lo9 (by decide) (fun _ _ => rfl)
      rw [w1, w2] at w3
      exact w3
    simp only [jloL, Bool.and_eq_true] at hlo2
    have hk1 := hk.1
    have hk2 : (KT1 KB_0).length = 38 := rfl
    have h9 := hn _ _ _ _ _ _ g3 ⟨by rw [KT_len]; omega, by decide, by rw [hmc]; exact hce, by rw [hms]; exact hsl⟩ adN H1 locs1 ls (fun i hi => by
      rw [KT_len] at hi
      rw [hNo i (by omega)]
      exact h1 i (by rw [hk2]; omega)) (by rw [eN]; exact g4) (by rw [eN]; exact g5) g6 (jLh_moved h5 hNo (by decide) hlo2.1)
    rw [jst_moved hNo (by decide) hlo2.2] at h9
    exact h9
  · exact ho.elim
