/-- the machine's side of a method that runs: launch, room, start, frame, tables, which cells may change, addresses at the start, how many cells then, what is owed -/
abbrev jΓ : Type _ := Program × Launch × Env × Room × State × MethodId × Array Value × List Frame × Method × Code × Nat × List vw_C × va_G × (Nat → ClassId) × (Nat → Prop) × (Nat → Nat) × Nat × (State → Prop)
def jG (Γ : jΓ) : jGt := fun pc L st K h ce sl => match Γ with
  | (p, l, e, R, s, m, args, below, meth, c, nL, cl, D, cid, A, ad0, k0, Qf) =>
    k0 ≤ K.length ∧ K.length ≤ 1000 ∧ ce ≤ R.cells ∧ sl ≤ R.slots → ∀ (ad : Nat → Nat) (H : Heap) (locs : List Loc) (ls : Array Slot), (∀ i, i < k0 ∨ K.length ≤ i → ad i = ad0 i) → va_P D cl (jw cid ad K h) H → va_D A (jw cid ad K h) → va_S A s.heap H locs → jLh ls nL ad L → W p l e R s m args below meth c H locs ce sl Qf (F0 m pc ls (st.map (jv ad)))
/-- the arrays' classes -/
def jTy (cid : Nat → ClassId) : List (ClassId × FieldType) := [(cid 0, .int), (cid 1, .int), (cid 2, .object "AntFloor$Ant"), (cid 3, .object "AntFloor$Sheet"), (cid 4, .array .int)]
/-- the four constant rows, references 1000 .. 1003 -/
def jzn : Nat → String
  | 0 => "SQUARES_X" | 1 => "SQUARES_Y" | 2 => "SIXES_X" | _ => "SIXES_Y"
def jzc : Nat → List Int32
  | 0 => [0, 1, 0, -1] | 1 => [1, 0, -1, 0] | 2 => [1, 0, -1, -1, 0, 1] | _ => [0, 1, 1, 0, -1, -1]
def jzr (j k : Nat) : Int32 := (jzc j).getD k 0
def jZ (ad : Nat → Nat) (A : Nat → Prop) (U : State) (H : Heap) : Prop := ∀ j, j < 4 → va_Z "AntFloor" (jzn j) "[I" (.ref (ad (1000 + j))) A U H ∧ va_T .int (ad (1000 + j)) (jzc j).length (fun k => .int (jzr j k)) A U H
/-- links to nest mates' private members, and that the arrays of objects have their classes -/
def jnw : List (String × Nat × MethodName × String) := [("AntFloor", 11, ⟨"AntFloor$Ground", "<init>", "()V"⟩, "AntFloor"), ("AntFloor", 18, ⟨"AntFloor$Rules", "<init>", "()V"⟩, "AntFloor"), ("AntFloor", 29, ⟨"AntFloor$Ant", "<init>", "()V"⟩, "AntFloor"), ("AntFloor", 36, ⟨"AntFloor$Meetings", "<init>", "()V"⟩, "AntFloor"), ("AntFloor", 43, ⟨"AntFloor$Mark", "<init>", "()V"⟩, "AntFloor"), ("AntFloor$Mark", 11, ⟨"AntFloor$Ant", "<init>", "()V"⟩, "AntFloor"), ("AntFloor", 54, ⟨"AntFloor$Sheet", "<init>", "()V"⟩, "AntFloor")]
def jnf : List (String × Nat × Nat) := [("AntFloor$Ground", 32, 2), ("AntFloor$Ground", 35, 0), ("AntFloor$Ground", 38, 3), ("AntFloor$Ground", 41, 1), ("AntFloor$Rules", 28, 2)]
def jXt (U : State) : Prop := (∀ q ∈ jnw, va_Nw (.methodLinkNest q.1 q.2.1 q.2.2.1 q.2.2.2) U) ∧ (∀ q ∈ jnf, va_Nw (.fieldLinkNest q.1 q.2.1 "AntFloor" (jzn q.2.2) "[I" "AntFloor") U) ∧ va_AO "AntFloor$Ant" U ∧ va_AO "AntFloor$Sheet" U ∧ (Cond.arrayOver (.array .int)).before #[] U = true
/-- what holds all along a method: code, class, name, return type, words, frames' and locals' room, cells' and slots' room -/
def jC (Γ : jΓ) (cc : ByteArray) (own nm : String) (rt : Option FieldType) (ws : List Cond) (fr lo mc ms : Nat) : Prop := match Γ with
  | (p, l, e, R, s, m, args, below, meth, c, nL, cl, D, cid, A, ad0, k0, Qf) =>
    p.tables.exec = Jvm.exec ∧ c.code = cc ∧ c.maxLocals = nL ∧ s.vm.findClass own = some m.cls ∧ meth.sig.returnType = rt ∧ meth.name = nm ∧ (∀ w ∈ ws, w.before args s = true) ∧ meth.locks = false ∧ va_K D cl (jTy cid) s ∧ (∀ q, s.heap.size ≤ q → A q) ∧ jZ ad0 A s s.heap ∧ R.frames = fr ∧ R.locals = lo ∧ R.cells = mc ∧ R.slots = ms ∧ jXt s
/-- an operation is sound where it stands -/
def jSA (Γ : jΓ) (Q : jPost) (pc : Nat) (o : jO) (len : Nat) : Prop := ∀ (J : jGt) (nx : jN), (∀ t L st K h ce sl, J t L st K h ce sl → jG Γ t L st K h ce sl) → (∀ L st K h ce sl, nx L st K h ce sl → jG Γ (pc + len) L st K h ce sl) → ∀ L st K h ce sl, o J Q nx L st K h ce sl → jG Γ pc L st K h ce sl
def jSS (Γ : jΓ) (Q : jPost) : Nat → jS → Prop
  | _, [] => True
  | pc, (o, n) :: r => jSA Γ Q pc o n ∧ jSS Γ Q (pc + n) r
/-- the condition that a straight stretch asks; a jump goes on at its target where cd has its stretch, and stops where it has none -/
def jwp (cd : Nat → jS) (G : jGt) (Q : jPost) : Nat → jS → jGt
  | 0, _, pc => G pc
  | _ + 1, [], pc => G pc
  | n + 1, (o, len) :: r, pc => o (fun t => match cd t with | [] => G t | sg => jwp cd G Q n sg t) Q (jwp cd G Q n r (pc + len))
theorem jwp_ok {Γ : jΓ} {Q : jPost} {cd : Nat → jS} (hcd : ∀ t, jSS Γ Q t (cd t)) : ∀ (n : Nat) (sg : jS) (pc : Nat), jSS Γ Q pc sg → ∀ L st K h ce sl, jwp cd (jG Γ) Q n sg pc L st K h ce sl → jG Γ pc L st K h ce sl
  | 0, sg, pc, hs, L, st, K, h, ce, sl, hw => by simpa only [jwp] using hw
  | n + 1, [], pc, hs, L, st, K, h, ce, sl, hw => by simpa only [jwp] using hw
  | n + 1, (o, len) :: r, pc, hs, L, st, K, h, ce, sl, hw => by
    simp only [jwp] at hw
    refine hs.1 _ _ (fun t L st K h ce sl ht => ?_) (fun L st K h ce sl ht => jwp_ok hcd n r (pc + len) hs.2 _ _ _ _ _ _ ht) _ _ _ _ _ _ hw
    cases hc : cd t with
    | nil => rw [hc] at ht; exact ht
    | cons a b =>
      rw [hc] at ht
      have h9 := hcd t
      rw [hc] at h9
      exact jwp_ok hcd n (a :: b) t h9 _ _ _ _ _ _ ht

def o_ic (v : Int32) : jO := fun _ _ nx L st K h ce sl => nx L (.int v :: st) K h ce sl
def o_lc (v : Int64) : jO := fun _ _ nx L st K h ce sl => nx L (.long v :: st) K h ce sl
theorem so_iconst {Γ : jΓ} {Q : jPost} {cc : ByteArray} {own nm : String} {rt : Option FieldType} {ws : List Cond} {fr lo mc ms : Nat} (C : jC Γ cc own nm rt ws fr lo mc ms) {pc : Nat} {n : Int} {v : Int32} (hv : Int32.ofInt n = v) (hd : decode cc pc = .ok (.iconst n, 1)) : jSA Γ Q pc (o_ic v) 1 := by
  obtain ⟨p, l, e, R, s, m, args, below, meth, c, nL, cl, D, cid, A, ad0, k0, Qf⟩ := Γ
  obtain ⟨hx, hb, hml, hown, hr, hnm, hts, hlocks, hK, hA, hZ, hfr, hlo, hmc, hms, hXt⟩ := C
  intro J nx hJ hn L st K h ce sl ho
  intro hk ad H locs ls h1 h2 h3 h4 h5
  exact lv_iconst hx hb hd hv (hn _ _ _ _ _ _ ho hk ad H locs ls h1 h2 h3 h4 h5)
theorem so_bipush {Γ : jΓ} {Q : jPost} {cc : ByteArray} {own nm : String} {rt : Option FieldType} {ws : List Cond} {fr lo mc ms : Nat} (C : jC Γ cc own nm rt ws fr lo mc ms) {pc : Nat} {n : Int} {v : Int32} (hv : (Int8.ofInt n).toInt32 = v) (hd : decode cc pc = .ok (.bipush n, 2)) : jSA Γ Q pc (o_ic v) 2 := by
  obtain ⟨p, l, e, R, s, m, args, below, meth, c, nL, cl, D, cid, A, ad0, k0, Qf⟩ := Γ
  obtain ⟨hx, hb, hml, hown, hr, hnm, hts, hlocks, hK, hA, hZ, hfr, hlo, hmc, hms, hXt⟩ := C
  intro J nx hJ hn L st K h ce sl ho
  intro hk ad H locs ls h1 h2 h3 h4 h5
  exact lv_bipush hx hb hd hv (hn _ _ _ _ _ _ ho hk ad H locs ls h1 h2 h3 h4 h5)
theorem so_sipush {Γ : jΓ} {Q : jPost} {cc : ByteArray} {own nm : String} {rt : Option FieldType} {ws : List Cond} {fr lo mc ms : Nat} (C : jC Γ cc own nm rt ws fr lo mc ms) {pc : Nat} {n : Int} {v : Int32} (hv : (Int16.ofInt n).toInt32 = v) (hd : decode cc pc = .ok (.sipush n, 3)) : jSA Γ Q pc (o_ic v) 3 := by
  obtain ⟨p, l, e, R, s, m, args, below, meth, c, nL, cl, D, cid, A, ad0, k0, Qf⟩ := Γ
  obtain ⟨hx, hb, hml, hown, hr, hnm, hts, hlocks, hK, hA, hZ, hfr, hlo, hmc, hms, hXt⟩ := C
  intro J nx hJ hn L st K h ce sl ho
  intro hk ad H locs ls h1 h2 h3 h4 h5
  exact lv_sipush hx hb hd hv (hn _ _ _ _ _ _ ho hk ad H locs ls h1 h2 h3 h4 h5)
theorem so_ldc {Γ : jΓ} {Q : jPost} {cc : ByteArray} {own nm : String} {rt : Option FieldType} {ws : List Cond} {fr lo mc ms : Nat} (C : jC Γ cc own nm rt ws fr lo mc ms) {pc : Nat} {index : Nat} {v : Int32} (hw : Jvm.Cond.constant own index v ∈ ws) (hd : decode cc pc = .ok (.ldc index, 2)) : jSA Γ Q pc (o_ic v) 2 := by
  obtain ⟨p, l, e, R, s, m, args, below, meth, c, nL, cl, D, cid, A, ad0, k0, Qf⟩ := Γ
  obtain ⟨hx, hb, hml, hown, hr, hnm, hts, hlocks, hK, hA, hZ, hfr, hlo, hmc, hms, hXt⟩ := C
  intro J nx hJ hn L st K h ce sl ho
  intro hk ad H locs ls h1 h2 h3 h4 h5
  exact lv_ldc hx hb hown (hts _ hw) hd (hn _ _ _ _ _ _ ho hk ad H locs ls h1 h2 h3 h4 h5)
theorem so_ldc2 {Γ : jΓ} {Q : jPost} {cc : ByteArray} {own nm : String} {rt : Option FieldType} {ws : List Cond} {fr lo mc ms : Nat} (C : jC Γ cc own nm rt ws fr lo mc ms) {pc : Nat} {index : Nat} {v : Int64} (hw : Jvm.Cond.constantLong own index v ∈ ws) (hd : decode cc pc = .ok (.ldc2_w index, 3)) : jSA Γ Q pc (o_lc v) 3 := by
  obtain ⟨p, l, e, R, s, m, args, below, meth, c, nL, cl, D, cid, A, ad0, k0, Qf⟩ := Γ
  obtain ⟨hx, hb, hml, hown, hr, hnm, hts, hlocks, hK, hA, hZ, hfr, hlo, hmc, hms, hXt⟩ := C
  intro J nx hJ hn L st K h ce sl ho
  intro hk ad H locs ls h1 h2 h3 h4 h5
  exact lv_ldc2 hx hb hown (hts _ hw) hd (hn _ _ _ _ _ _ ho hk ad H locs ls h1 h2 h3 h4 h5)
theorem so_lconst {Γ : jΓ} {Q : jPost} {cc : ByteArray} {own nm : String} {rt : Option FieldType} {ws : List Cond} {fr lo mc ms : Nat} (C : jC Γ cc own nm rt ws fr lo mc ms) {pc : Nat} {n : Fin 2} {v : Int64} (hv : Int64.ofNat (n : Nat) = v) (hd : decode cc pc = .ok (.lconst n, 1)) : jSA Γ Q pc (o_lc v) 1 := by
  obtain ⟨p, l, e, R, s, m, args, below, meth, c, nL, cl, D, cid, A, ad0, k0, Qf⟩ := Γ
  obtain ⟨hx, hb, hml, hown, hr, hnm, hts, hlocks, hK, hA, hZ, hfr, hlo, hmc, hms, hXt⟩ := C
  intro J nx hJ hn L st K h ce sl ho
  intro hk ad H locs ls h1 h2 h3 h4 h5
  exact lv_lconst hx hb hd hv (hn _ _ _ _ _ _ ho hk ad H locs ls h1 h2 h3 h4 h5)
def o_iload (i : Nat) : jO := fun _ _ nx L st K h ce sl => match jg L i with
  | some (.int x) => nx L (.int x :: st) K h ce sl
  | _ => False
theorem so_iload_n {Γ : jΓ} {Q : jPost} {cc : ByteArray} {own nm : String} {rt : Option FieldType} {ws : List Cond} {fr lo mc ms : Nat} (C : jC Γ cc own nm rt ws fr lo mc ms) {pc : Nat} {k : Fin 4} {i : Nat} (hi : (k : Nat) = i) (hd : decode cc pc = .ok (.iload_n k, 1)) : jSA Γ Q pc (o_iload i) 1 := by
  obtain ⟨p, l, e, R, s, m, args, below, meth, c, nL, cl, D, cid, A, ad0, k0, Qf⟩ := Γ
  obtain ⟨hx, hb, hml, hown, hr, hnm, hts, hlocks, hK, hA, hZ, hfr, hlo, hmc, hms, hXt⟩ := C
  intro J nx hJ hn L st K h ce sl ho
  unfold o_iload at ho
  split at ho
  · rename_i x hx2
    intro hk ad H locs ls h1 h2 h3 h4 h5
    exact lv_iload_n hx hb hd hi (jLh_at h5 hx2) (hn _ _ _ _ _ _ ho hk ad H locs ls h1 h2 h3 h4 h5)
  · exact ho.elim
theorem so_iload {Γ : jΓ} {Q : jPost} {cc : ByteArray} {own nm : String} {rt : Option FieldType} {ws : List Cond} {fr lo mc ms : Nat} (C : jC Γ cc own nm rt ws fr lo mc ms) {pc : Nat} {i : Nat} (hd : decode cc pc = .ok (.iload i, 2)) : jSA Γ Q pc (o_iload i) 2 := by
  obtain ⟨p, l, e, R, s, m, args, below, meth, c, nL, cl, D, cid, A, ad0, k0, Qf⟩ := Γ
  obtain ⟨hx, hb, hml, hown, hr, hnm, hts, hlocks, hK, hA, hZ, hfr, hlo, hmc, hms, hXt⟩ := C
  intro J nx hJ hn L st K h ce sl ho
  unfold o_iload at ho
  split at ho
  · rename_i x hx2
    intro hk ad H locs ls h1 h2 h3 h4 h5
    exact lv_iload hx hb hd (jLh_at h5 hx2) (hn _ _ _ _ _ _ ho hk ad H locs ls h1 h2 h3 h4 h5)
  · exact ho.elim
def o_lload (i : Nat) : jO := fun _ _ nx L st K h ce sl => match jg L i with
  | some (.long x) => nx L (.long x :: st) K h ce sl
  | _ => False
theorem so_lload_n {Γ : jΓ} {Q : jPost} {cc : ByteArray} {own nm : String} {rt : Option FieldType} {ws : List Cond} {fr lo mc ms : Nat} (C : jC Γ cc own nm rt ws fr lo mc ms) {pc : Nat} {k : Fin 4} {i : Nat} (hi : (k : Nat) = i) (hd : decode cc pc = .ok (.lload_n k, 1)) : jSA Γ Q pc (o_lload i) 1 := by
  obtain ⟨p, l, e, R, s, m, args, below, meth, c, nL, cl, D, cid, A, ad0, k0, Qf⟩ := Γ
  obtain ⟨hx, hb, hml, hown, hr, hnm, hts, hlocks, hK, hA, hZ, hfr, hlo, hmc, hms, hXt⟩ := C
  intro J nx hJ hn L st K h ce sl ho
  unfold o_lload at ho
  split at ho
  · rename_i x hx2
    intro hk ad H locs ls h1 h2 h3 h4 h5
    exact lv_lload_n hx hb hd hi (jLh_at h5 hx2) (hn _ _ _ _ _ _ ho hk ad H locs ls h1 h2 h3 h4 h5)
  · exact ho.elim
theorem so_lload {Γ : jΓ} {Q : jPost} {cc : ByteArray} {own nm : String} {rt : Option FieldType} {ws : List Cond} {fr lo mc ms : Nat} (C : jC Γ cc own nm rt ws fr lo mc ms) {pc : Nat} {i : Nat} (hd : decode cc pc = .ok (.lload i, 2)) : jSA Γ Q pc (o_lload i) 2 := by
  obtain ⟨p, l, e, R, s, m, args, below, meth, c, nL, cl, D, cid, A, ad0, k0, Qf⟩ := Γ
  obtain ⟨hx, hb, hml, hown, hr, hnm, hts, hlocks, hK, hA, hZ, hfr, hlo, hmc, hms, hXt⟩ := C
  intro J nx hJ hn L st K h ce sl ho
  unfold o_lload at ho
  split at ho
  · rename_i x hx2
    intro hk ad H locs ls h1 h2 h3 h4 h5
    exact lv_lload hx hb hd (jLh_at h5 hx2) (hn _ _ _ _ _ _ ho hk ad H locs ls h1 h2 h3 h4 h5)
  · exact ho.elim
def o_aload (i : Nat) : jO := fun _ _ nx L st K h ce sl => match jg L i with
  | some (.ref x) => nx L (.ref x :: st) K h ce sl
  | _ => False
theorem so_aload_n {Γ : jΓ} {Q : jPost} {cc : ByteArray} {own nm : String} {rt : Option FieldType} {ws : List Cond} {fr lo mc ms : Nat} (C : jC Γ cc own nm rt ws fr lo mc ms) {pc : Nat} {k : Fin 4} {i : Nat} (hi : (k : Nat) = i) (hd : decode cc pc = .ok (.aload_n k, 1)) : jSA Γ Q pc (o_aload i) 1 := by
  obtain ⟨p, l, e, R, s, m, args, below, meth, c, nL, cl, D, cid, A, ad0, k0, Qf⟩ := Γ
  obtain ⟨hx, hb, hml, hown, hr, hnm, hts, hlocks, hK, hA, hZ, hfr, hlo, hmc, hms, hXt⟩ := C
  intro J nx hJ hn L st K h ce sl ho
  unfold o_aload at ho
  split at ho
  · rename_i x hx2
    intro hk ad H locs ls h1 h2 h3 h4 h5
    exact lv_aload_n hx hb hd hi (jLh_at h5 hx2) (hn _ _ _ _ _ _ ho hk ad H locs ls h1 h2 h3 h4 h5)
  · exact ho.elim
theorem so_aload {Γ : jΓ} {Q : jPost} {cc : ByteArray} {own nm : String} {rt : Option FieldType} {ws : List Cond} {fr lo mc ms : Nat} (C : jC Γ cc own nm rt ws fr lo mc ms) {pc : Nat} {i : Nat} (hd : decode cc pc = .ok (.aload i, 2)) : jSA Γ Q pc (o_aload i) 2 := by
  obtain ⟨p, l, e, R, s, m, args, below, meth, c, nL, cl, D, cid, A, ad0, k0, Qf⟩ := Γ
  obtain ⟨hx, hb, hml, hown, hr, hnm, hts, hlocks, hK, hA, hZ, hfr, hlo, hmc, hms, hXt⟩ := C
  intro J nx hJ hn L st K h ce sl ho
  unfold o_aload at ho
  split at ho
  · rename_i x hx2
    intro hk ad H locs ls h1 h2 h3 h4 h5
    exact lv_aload hx hb hd (jLh_at h5 hx2) (hn _ _ _ _ _ _ ho hk ad H locs ls h1 h2 h3 h4 h5)
  · exact ho.elim
def o_istore (i : Nat) : jO := fun _ _ nx L st K h ce sl => match st with
  | .int x :: r => nx (js (jkp L i) i (some (.int x))) r K h ce sl
  | _ => False
theorem so_istore_n {Γ : jΓ} {Q : jPost} {cc : ByteArray} {own nm : String} {rt : Option FieldType} {ws : List Cond} {fr lo mc ms : Nat} (C : jC Γ cc own nm rt ws fr lo mc ms) {pc : Nat} {k : Fin 4} {i : Nat} (hi : (k : Nat) = i) (hlt : i < Γ.2.2.2.2.2.2.2.2.2.2.1) (hd : decode cc pc = .ok (.istore_n k, 1)) : jSA Γ Q pc (o_istore i) 1 := by
  obtain ⟨p, l, e, R, s, m, args, below, meth, c, nL, cl, D, cid, A, ad0, k0, Qf⟩ := Γ
  obtain ⟨hx, hb, hml, hown, hr, hnm, hts, hlocks, hK, hA, hZ, hfr, hlo, hmc, hms, hXt⟩ := C
  intro J nx hJ hn L st K h ce sl ho
  unfold o_istore at ho
  split at ho
  · intro hk ad H locs ls h1 h2 h3 h4 h5
    exact lv_istore_n hx hb hd hi h5 hlt rfl (fun ls' h6 => hn _ _ _ _ _ _ ho hk ad H locs ls' h1 h2 h3 h4 (jLh_st h6))
  · exact ho.elim
theorem so_istore {Γ : jΓ} {Q : jPost} {cc : ByteArray} {own nm : String} {rt : Option FieldType} {ws : List Cond} {fr lo mc ms : Nat} (C : jC Γ cc own nm rt ws fr lo mc ms) {pc : Nat} {i : Nat} (hlt : i < Γ.2.2.2.2.2.2.2.2.2.2.1) (hd : decode cc pc = .ok (.istore i, 2)) : jSA Γ Q pc (o_istore i) 2 := by
  obtain ⟨p, l, e, R, s, m, args, below, meth, c, nL, cl, D, cid, A, ad0, k0, Qf⟩ := Γ
  obtain ⟨hx, hb, hml, hown, hr, hnm, hts, hlocks, hK, hA, hZ, hfr, hlo, hmc, hms, hXt⟩ := C
  intro J nx hJ hn L st K h ce sl ho
  unfold o_istore at ho
  split at ho
  · intro hk ad H locs ls h1 h2 h3 h4 h5
    exact lv_istore hx hb hd h5 hlt rfl (fun ls' h6 => hn _ _ _ _ _ _ ho hk ad H locs ls' h1 h2 h3 h4 (jLh_st h6))
  · exact ho.elim
def o_lstore (i : Nat) : jO := fun _ _ nx L st K h ce sl => match st with
  | .long x :: r => nx (js (js (jkp L i) i (some (.long x))) (i + 1) none) r K h ce sl
  | _ => False
theorem so_lstore_n {Γ : jΓ} {Q : jPost} {cc : ByteArray} {own nm : String} {rt : Option FieldType} {ws : List Cond} {fr lo mc ms : Nat} (C : jC Γ cc own nm rt ws fr lo mc ms) {pc : Nat} {k : Fin 4} {i : Nat} (hi : (k : Nat) = i) (hlt : i + 1 < Γ.2.2.2.2.2.2.2.2.2.2.1) (hd : decode cc pc = .ok (.lstore_n k, 1)) : jSA Γ Q pc (o_lstore i) 1 := by
  obtain ⟨p, l, e, R, s, m, args, below, meth, c, nL, cl, D, cid, A, ad0, k0, Qf⟩ := Γ
  obtain ⟨hx, hb, hml, hown, hr, hnm, hts, hlocks, hK, hA, hZ, hfr, hlo, hmc, hms, hXt⟩ := C
  intro J nx hJ hn L st K h ce sl ho
  unfold o_lstore at ho
  split at ho
  · intro hk ad H locs ls h1 h2 h3 h4 h5
    exact lv_lstore_n hx hb hd hi h5 hlt rfl (fun ls' h6 => hn _ _ _ _ _ _ ho hk ad H locs ls' h1 h2 h3 h4 (jLh_st2 h6))
  · exact ho.elim
theorem so_lstore {Γ : jΓ} {Q : jPost} {cc : ByteArray} {own nm : String} {rt : Option FieldType} {ws : List Cond} {fr lo mc ms : Nat} (C : jC Γ cc own nm rt ws fr lo mc ms) {pc : Nat} {i : Nat} (hlt : i + 1 < Γ.2.2.2.2.2.2.2.2.2.2.1) (hd : decode cc pc = .ok (.lstore i, 2)) : jSA Γ Q pc (o_lstore i) 2 := by
  obtain ⟨p, l, e, R, s, m, args, below, meth, c, nL, cl, D, cid, A, ad0, k0, Qf⟩ := Γ
  obtain ⟨hx, hb, hml, hown, hr, hnm, hts, hlocks, hK, hA, hZ, hfr, hlo, hmc, hms, hXt⟩ := C
  intro J nx hJ hn L st K h ce sl ho
  unfold o_lstore at ho
  split at ho
  · intro hk ad H locs ls h1 h2 h3 h4 h5
    exact lv_lstore hx hb hd h5 hlt rfl (fun ls' h6 => hn _ _ _ _ _ _ ho hk ad H locs ls' h1 h2 h3 h4 (jLh_st2 h6))
  · exact ho.elim
def o_astore (i : Nat) : jO := fun _ _ nx L st K h ce sl => match st with
  | .ref x :: r => nx (js (jkp L i) i (some (.ref x))) r K h ce sl
  | _ => False
theorem so_astore_n {Γ : jΓ} {Q : jPost} {cc : ByteArray} {own nm : String} {rt : Option FieldType} {ws : List Cond} {fr lo mc ms : Nat} (C : jC Γ cc own nm rt ws fr lo mc ms) {pc : Nat} {k : Fin 4} {i : Nat} (hi : (k : Nat) = i) (hlt : i < Γ.2.2.2.2.2.2.2.2.2.2.1) (hd : decode cc pc = .ok (.astore_n k, 1)) : jSA Γ Q pc (o_astore i) 1 := by
  obtain ⟨p, l, e, R, s, m, args, below, meth, c, nL, cl, D, cid, A, ad0, k0, Qf⟩ := Γ
  obtain ⟨hx, hb, hml, hown, hr, hnm, hts, hlocks, hK, hA, hZ, hfr, hlo, hmc, hms, hXt⟩ := C
  intro J nx hJ hn L st K h ce sl ho
  unfold o_astore at ho
  split at ho
  · intro hk ad H locs ls h1 h2 h3 h4 h5
    exact lv_astore_n hx hb hd hi h5 hlt rfl (fun ls' h6 => hn _ _ _ _ _ _ ho hk ad H locs ls' h1 h2 h3 h4 (jLh_st h6))
  · exact ho.elim
theorem so_astore {Γ : jΓ} {Q : jPost} {cc : ByteArray} {own nm : String} {rt : Option FieldType} {ws : List Cond} {fr lo mc ms : Nat} (C : jC Γ cc own nm rt ws fr lo mc ms) {pc : Nat} {i : Nat} (hlt : i < Γ.2.2.2.2.2.2.2.2.2.2.1) (hd : decode cc pc = .ok (.astore i, 2)) : jSA Γ Q pc (o_astore i) 2 := by
  obtain ⟨p, l, e, R, s, m, args, below, meth, c, nL, cl, D, cid, A, ad0, k0, Qf⟩ := Γ
  obtain ⟨hx, hb, hml, hown, hr, hnm, hts, hlocks, hK, hA, hZ, hfr, hlo, hmc, hms, hXt⟩ := C
  intro J nx hJ hn L st K h ce sl ho
  unfold o_astore at ho
  split at ho
  · intro hk ad H locs ls h1 h2 h3 h4 h5
    exact lv_astore hx hb hd h5 hlt rfl (fun ls' h6 => hn _ _ _ _ _ _ ho hk ad H locs ls' h1 h2 h3 h4 (jLh_st h6))
  · exact ho.elim
def o_iinc (i : Nat) (v : Int32) : jO := fun _ _ nx L st K h ce sl => match jg L i with
  | some (.int x) => nx (js (jkp L i) i (some (.int (x + v)))) st K h ce sl
  | _ => False
theorem so_iinc {Γ : jΓ} {Q : jPost} {cc : ByteArray} {own nm : String} {rt : Option FieldType} {ws : List Cond} {fr lo mc ms : Nat} (C : jC Γ cc own nm rt ws fr lo mc ms) {pc : Nat} {i : Nat} {n : Int} {v : Int32} (hv : Int32.ofInt n = v) (hlt : i < Γ.2.2.2.2.2.2.2.2.2.2.1) (hd : decode cc pc = .ok (.iinc i n, 3)) : jSA Γ Q pc (o_iinc i v) 3 := by
  obtain ⟨p, l, e, R, s, m, args, below, meth, c, nL, cl, D, cid, A, ad0, k0, Qf⟩ := Γ
  obtain ⟨hx, hb, hml, hown, hr, hnm, hts, hlocks, hK, hA, hZ, hfr, hlo, hmc, hms, hXt⟩ := C
  intro J nx hJ hn L st K h ce sl ho
  unfold o_iinc at ho
  split at ho
  · rename_i x hx2
    intro hk ad H locs ls h1 h2 h3 h4 h5
    obtain ⟨k, hk2⟩ := List.getElem?_of_mem ((jasc_mem ad L i _).mpr ⟨_, hx2, rfl⟩)
    exact lv_iinc hx hb hd h5 hk2 (by rw [hv]) hlt rfl (fun ls' h6 => hn _ _ _ _ _ _ ho hk ad H locs ls' h1 h2 h3 h4 (jLh_st h6))
  · exact ho.elim
theorem so_iincW {Γ : jΓ} {Q : jPost} {cc : ByteArray} {own nm : String} {rt : Option FieldType} {ws : List Cond} {fr lo mc ms : Nat} (C : jC Γ cc own nm rt ws fr lo mc ms) {pc : Nat} {i : Nat} {n : Int} {v : Int32} (hv : Int32.ofInt n = v) (hlt : i < Γ.2.2.2.2.2.2.2.2.2.2.1) (hd : decode cc pc = .ok (.iinc i n, 6)) : jSA Γ Q pc (o_iinc i v) 6 := by
  obtain ⟨p, l, e, R, s, m, args, below, meth, c, nL, cl, D, cid, A, ad0, k0, Qf⟩ := Γ
  obtain ⟨hx, hb, hml, hown, hr, hnm, hts, hlocks, hK, hA, hZ, hfr, hlo, hmc, hms, hXt⟩ := C
  intro J nx hJ hn L st K h ce sl ho
  unfold o_iinc at ho
  split at ho
  · rename_i x hx2
    intro hk ad H locs ls h1 h2 h3 h4 h5
    obtain ⟨k, hk2⟩ := List.getElem?_of_mem ((jasc_mem ad L i _).mpr ⟨_, hx2, rfl⟩)
    exact lv_iincW hx hb hd h5 hk2 (by rw [hv]) hlt rfl (fun ls' h6 => hn _ _ _ _ _ _ ho hk ad H locs ls' h1 h2 h3 h4 (jLh_st h6))
  · exact ho.elim
def jc1 (v : Value) : Prop := v.category = 1
def o_pop : jO := fun _ _ nx L st K h ce sl => match st with
  | v :: r => v.category = 1 ∧ nx L r K h ce sl
  | _ => False
theorem so_pop {Γ : jΓ} {Q : jPost} {cc : ByteArray} {own nm : String} {rt : Option FieldType} {ws : List Cond} {fr lo mc ms : Nat} (C : jC Γ cc own nm rt ws fr lo mc ms) {pc : Nat} (hd : decode cc pc = .ok (.pop, 1)) : jSA Γ Q pc o_pop 1 := by
  obtain ⟨p, l, e, R, s, m, args, below, meth, c, nL, cl, D, cid, A, ad0, k0, Qf⟩ := Γ
  obtain ⟨hx, hb, hml, hown, hr, hnm, hts, hlocks, hK, hA, hZ, hfr, hlo, hmc, hms, hXt⟩ := C
  intro J nx hJ hn L st K h ce sl ho
  unfold o_pop at ho
  split at ho
  · intro hk ad H locs ls h1 h2 h3 h4 h5
    exact lv_pop hx hb hd (by rw [jv_cat]; exact ho.1) (hn _ _ _ _ _ _ ho.2 hk ad H locs ls h1 h2 h3 h4 h5)
  · exact ho.elim
def o_dup : jO := fun _ _ nx L st K h ce sl => match st with
  | v :: r => v.category = 1 ∧ nx L (v :: v :: r) K h ce sl
  | _ => False
theorem so_dup {Γ : jΓ} {Q : jPost} {cc : ByteArray} {own nm : String} {rt : Option FieldType} {ws : List Cond} {fr lo mc ms : Nat} (C : jC Γ cc own nm rt ws fr lo mc ms) {pc : Nat} (hd : decode cc pc = .ok (.dup, 1)) : jSA Γ Q pc o_dup 1 := by
  obtain ⟨p, l, e, R, s, m, args, below, meth, c, nL, cl, D, cid, A, ad0, k0, Qf⟩ := Γ
  obtain ⟨hx, hb, hml, hown, hr, hnm, hts, hlocks, hK, hA, hZ, hfr, hlo, hmc, hms, hXt⟩ := C
  intro J nx hJ hn L st K h ce sl ho
  unfold o_dup at ho
  split at ho
  · intro hk ad H locs ls h1 h2 h3 h4 h5
    exact lv_dup hx hb hd (by rw [jv_cat]; exact ho.1) (hn _ _ _ _ _ _ ho.2 hk ad H locs ls h1 h2 h3 h4 h5)
  · exact ho.elim
def o_dup2 : jO := fun _ _ nx L st K h ce sl => match st with
  | v :: w :: r => v.category = 1 ∧ w.category = 1 ∧ nx L (v :: w :: v :: w :: r) K h ce sl
  | _ => False
theorem so_dup2 {Γ : jΓ} {Q : jPost} {cc : ByteArray} {own nm : String} {rt : Option FieldType} {ws : List Cond} {fr lo mc ms : Nat} (C : jC Γ cc own nm rt ws fr lo mc ms) {pc : Nat} (hd : decode cc pc = .ok (.dup2, 1)) : jSA Γ Q pc o_dup2 1 := by
  obtain ⟨p, l, e, R, s, m, args, below, meth, c, nL, cl, D, cid, A, ad0, k0, Qf⟩ := Γ
  obtain ⟨hx, hb, hml, hown, hr, hnm, hts, hlocks, hK, hA, hZ, hfr, hlo, hmc, hms, hXt⟩ := C
  intro J nx hJ hn L st K h ce sl ho
  unfold o_dup2 at ho
  split at ho
  · intro hk ad H locs ls h1 h2 h3 h4 h5
    exact lv_dup2_11 hx hb hd (by rw [jv_cat]; exact ho.1) (by rw [jv_cat]; exact ho.2.1) (hn _ _ _ _ _ _ ho.2.2 hk ad H locs ls h1 h2 h3 h4 h5)
  · exact ho.elim
def o_iadd : jO := fun _ _ nx L st K h ce sl => match st with
  | .int y :: .int x :: r => nx L (.int (x + y) :: r) K h ce sl
  | _ => False
theorem so_iadd {Γ : jΓ} {Q : jPost} {cc : ByteArray} {own nm : String} {rt : Option FieldType} {ws : List Cond} {fr lo mc ms : Nat} (C : jC Γ cc own nm rt ws fr lo mc ms) {pc : Nat}  (hd : decode cc pc = .ok (.iadd, 1)) : jSA Γ Q pc (o_iadd) 1 := by
  obtain ⟨p, l, e, R, s, m, args, below, meth, c, nL, cl, D, cid, A, ad0, k0, Qf⟩ := Γ
  obtain ⟨hx, hb, hml, hown, hr, hnm, hts, hlocks, hK, hA, hZ, hfr, hlo, hmc, hms, hXt⟩ := C
  intro J nx hJ hn L st K h ce sl ho
  unfold o_iadd at ho
  split at ho
  · intro hk ad H locs ls h1 h2 h3 h4 h5
    exact lv_iadd hx hb hd (hn _ _ _ _ _ _ ho hk ad H locs ls h1 h2 h3 h4 h5)
  · exact ho.elim
def o_isub : jO := fun _ _ nx L st K h ce sl => match st with
  | .int y :: .int x :: r => nx L (.int (x - y) :: r) K h ce sl
  | _ => False
theorem so_isub {Γ : jΓ} {Q : jPost} {cc : ByteArray} {own nm : String} {rt : Option FieldType} {ws : List Cond} {fr lo mc ms : Nat} (C : jC Γ cc own nm rt ws fr lo mc ms) {pc : Nat}  (hd : decode cc pc = .ok (.isub, 1)) : jSA Γ Q pc (o_isub) 1 := by
  obtain ⟨p, l, e, R, s, m, args, below, meth, c, nL, cl, D, cid, A, ad0, k0, Qf⟩ := Γ
  obtain ⟨hx, hb, hml, hown, hr, hnm, hts, hlocks, hK, hA, hZ, hfr, hlo, hmc, hms, hXt⟩ := C
  intro J nx hJ hn L st K h ce sl ho
  unfold o_isub at ho
  split at ho
  · intro hk ad H locs ls h1 h2 h3 h4 h5
    exact lv_isub hx hb hd (hn _ _ _ _ _ _ ho hk ad H locs ls h1 h2 h3 h4 h5)
  · exact ho.elim
def o_imul : jO := fun _ _ nx L st K h ce sl => match st with
  | .int y :: .int x :: r => nx L (.int (x * y) :: r) K h ce sl
  | _ => False
theorem so_imul {Γ : jΓ} {Q : jPost} {cc : ByteArray} {own nm : String} {rt : Option FieldType} {ws : List Cond} {fr lo mc ms : Nat} (C : jC Γ cc own nm rt ws fr lo mc ms) {pc : Nat}  (hd : decode cc pc = .ok (.imul, 1)) : jSA Γ Q pc (o_imul) 1 := by
  obtain ⟨p, l, e, R, s, m, args, below, meth, c, nL, cl, D, cid, A, ad0, k0, Qf⟩ := Γ
  obtain ⟨hx, hb, hml, hown, hr, hnm, hts, hlocks, hK, hA, hZ, hfr, hlo, hmc, hms, hXt⟩ := C
  intro J nx hJ hn L st K h ce sl ho
  unfold o_imul at ho
  split at ho
  · intro hk ad H locs ls h1 h2 h3 h4 h5
    exact lv_imul hx hb hd (hn _ _ _ _ _ _ ho hk ad H locs ls h1 h2 h3 h4 h5)
  · exact ho.elim
def o_iand : jO := fun _ _ nx L st K h ce sl => match st with
  | .int y :: .int x :: r => nx L (.int (x &&& y) :: r) K h ce sl
  | _ => False
theorem so_iand {Γ : jΓ} {Q : jPost} {cc : ByteArray} {own nm : String} {rt : Option FieldType} {ws : List Cond} {fr lo mc ms : Nat} (C : jC Γ cc own nm rt ws fr lo mc ms) {pc : Nat}  (hd : decode cc pc = .ok (.iand, 1)) : jSA Γ Q pc (o_iand) 1 := by
  obtain ⟨p, l, e, R, s, m, args, below, meth, c, nL, cl, D, cid, A, ad0, k0, Qf⟩ := Γ
  obtain ⟨hx, hb, hml, hown, hr, hnm, hts, hlocks, hK, hA, hZ, hfr, hlo, hmc, hms, hXt⟩ := C
  intro J nx hJ hn L st K h ce sl ho
  unfold o_iand at ho
  split at ho
  · intro hk ad H locs ls h1 h2 h3 h4 h5
    exact lv_iand hx hb hd (hn _ _ _ _ _ _ ho hk ad H locs ls h1 h2 h3 h4 h5)
  · exact ho.elim
def o_ior : jO := fun _ _ nx L st K h ce sl => match st with
  | .int y :: .int x :: r => nx L (.int (x ||| y) :: r) K h ce sl
  | _ => False
theorem so_ior {Γ : jΓ} {Q : jPost} {cc : ByteArray} {own nm : String} {rt : Option FieldType} {ws : List Cond} {fr lo mc ms : Nat} (C : jC Γ cc own nm rt ws fr lo mc ms) {pc : Nat}  (hd : decode cc pc = .ok (.ior, 1)) : jSA Γ Q pc (o_ior) 1 := by
  obtain ⟨p, l, e, R, s, m, args, below, meth, c, nL, cl, D, cid, A, ad0, k0, Qf⟩ := Γ
  obtain ⟨hx, hb, hml, hown, hr, hnm, hts, hlocks, hK, hA, hZ, hfr, hlo, hmc, hms, hXt⟩ := C
  intro J nx hJ hn L st K h ce sl ho
  unfold o_ior at ho
  split at ho
  · intro hk ad H locs ls h1 h2 h3 h4 h5
    exact lv_ior hx hb hd (hn _ _ _ _ _ _ ho hk ad H locs ls h1 h2 h3 h4 h5)
  · exact ho.elim
def o_ishl : jO := fun _ _ nx L st K h ce sl => match st with
  | .int y :: .int x :: r => nx L (.int (x <<< (y &&& 31)) :: r) K h ce sl
  | _ => False
theorem so_ishl {Γ : jΓ} {Q : jPost} {cc : ByteArray} {own nm : String} {rt : Option FieldType} {ws : List Cond} {fr lo mc ms : Nat} (C : jC Γ cc own nm rt ws fr lo mc ms) {pc : Nat}  (hd : decode cc pc = .ok (.ishl, 1)) : jSA Γ Q pc (o_ishl) 1 := by
  obtain ⟨p, l, e, R, s, m, args, below, meth, c, nL, cl, D, cid, A, ad0, k0, Qf⟩ := Γ
  obtain ⟨hx, hb, hml, hown, hr, hnm, hts, hlocks, hK, hA, hZ, hfr, hlo, hmc, hms, hXt⟩ := C
  intro J nx hJ hn L st K h ce sl ho
  unfold o_ishl at ho
  split at ho
  · intro hk ad H locs ls h1 h2 h3 h4 h5
    exact lv_ishl hx hb hd (hn _ _ _ _ _ _ ho hk ad H locs ls h1 h2 h3 h4 h5)
  · exact ho.elim
def o_ladd : jO := fun _ _ nx L st K h ce sl => match st with
  | .long y :: .long x :: r => nx L (.long (x + y) :: r) K h ce sl
  | _ => False
theorem so_ladd {Γ : jΓ} {Q : jPost} {cc : ByteArray} {own nm : String} {rt : Option FieldType} {ws : List Cond} {fr lo mc ms : Nat} (C : jC Γ cc own nm rt ws fr lo mc ms) {pc : Nat}  (hd : decode cc pc = .ok (.ladd, 1)) : jSA Γ Q pc (o_ladd) 1 := by
  obtain ⟨p, l, e, R, s, m, args, below, meth, c, nL, cl, D, cid, A, ad0, k0, Qf⟩ := Γ
  obtain ⟨hx, hb, hml, hown, hr, hnm, hts, hlocks, hK, hA, hZ, hfr, hlo, hmc, hms, hXt⟩ := C
  intro J nx hJ hn L st K h ce sl ho
  unfold o_ladd at ho
  split at ho
  · intro hk ad H locs ls h1 h2 h3 h4 h5
    exact lv_ladd hx hb hd (hn _ _ _ _ _ _ ho hk ad H locs ls h1 h2 h3 h4 h5)
  · exact ho.elim
def o_lmul : jO := fun _ _ nx L st K h ce sl => match st with
  | .long y :: .long x :: r => nx L (.long (x * y) :: r) K h ce sl
  | _ => False
theorem so_lmul {Γ : jΓ} {Q : jPost} {cc : ByteArray} {own nm : String} {rt : Option FieldType} {ws : List Cond} {fr lo mc ms : Nat} (C : jC Γ cc own nm rt ws fr lo mc ms) {pc : Nat}  (hd : decode cc pc = .ok (.lmul, 1)) : jSA Γ Q pc (o_lmul) 1 := by
  obtain ⟨p, l, e, R, s, m, args, below, meth, c, nL, cl, D, cid, A, ad0, k0, Qf⟩ := Γ
  obtain ⟨hx, hb, hml, hown, hr, hnm, hts, hlocks, hK, hA, hZ, hfr, hlo, hmc, hms, hXt⟩ := C
  intro J nx hJ hn L st K h ce sl ho
  unfold o_lmul at ho
  split at ho
  · intro hk ad H locs ls h1 h2 h3 h4 h5
    exact lv_lmul hx hb hd (hn _ _ _ _ _ _ ho hk ad H locs ls h1 h2 h3 h4 h5)
  · exact ho.elim
def o_land : jO := fun _ _ nx L st K h ce sl => match st with
  | .long y :: .long x :: r => nx L (.long (x &&& y) :: r) K h ce sl
  | _ => False
theorem so_land {Γ : jΓ} {Q : jPost} {cc : ByteArray} {own nm : String} {rt : Option FieldType} {ws : List Cond} {fr lo mc ms : Nat} (C : jC Γ cc own nm rt ws fr lo mc ms) {pc : Nat}  (hd : decode cc pc = .ok (.land, 1)) : jSA Γ Q pc (o_land) 1 := by
  obtain ⟨p, l, e, R, s, m, args, below, meth, c, nL, cl, D, cid, A, ad0, k0, Qf⟩ := Γ
  obtain ⟨hx, hb, hml, hown, hr, hnm, hts, hlocks, hK, hA, hZ, hfr, hlo, hmc, hms, hXt⟩ := C
  intro J nx hJ hn L st K h ce sl ho
  unfold o_land at ho
  split at ho
  · intro hk ad H locs ls h1 h2 h3 h4 h5
    exact lv_land hx hb hd (hn _ _ _ _ _ _ ho hk ad H locs ls h1 h2 h3 h4 h5)
  · exact ho.elim
def o_lor : jO := fun _ _ nx L st K h ce sl => match st with
  | .long y :: .long x :: r => nx L (.long (x ||| y) :: r) K h ce sl
  | _ => False
theorem so_lor {Γ : jΓ} {Q : jPost} {cc : ByteArray} {own nm : String} {rt : Option FieldType} {ws : List Cond} {fr lo mc ms : Nat} (C : jC Γ cc own nm rt ws fr lo mc ms) {pc : Nat}  (hd : decode cc pc = .ok (.lor, 1)) : jSA Γ Q pc (o_lor) 1 := by
  obtain ⟨p, l, e, R, s, m, args, below, meth, c, nL, cl, D, cid, A, ad0, k0, Qf⟩ := Γ
  obtain ⟨hx, hb, hml, hown, hr, hnm, hts, hlocks, hK, hA, hZ, hfr, hlo, hmc, hms, hXt⟩ := C
  intro J nx hJ hn L st K h ce sl ho
  unfold o_lor at ho
  split at ho
  · intro hk ad H locs ls h1 h2 h3 h4 h5
    exact lv_lor hx hb hd (hn _ _ _ _ _ _ ho hk ad H locs ls h1 h2 h3 h4 h5)
  · exact ho.elim
def o_idiv : jO := fun _ _ nx L st K h ce sl => match st with
  | .int y :: .int x :: r => ¬ y = 0 ∧ nx L (.int (x / y) :: r) K h ce sl
  | _ => False
theorem so_idiv {Γ : jΓ} {Q : jPost} {cc : ByteArray} {own nm : String} {rt : Option FieldType} {ws : List Cond} {fr lo mc ms : Nat} (C : jC Γ cc own nm rt ws fr lo mc ms) {pc : Nat} (hd : decode cc pc = .ok (.idiv, 1)) : jSA Γ Q pc o_idiv 1 := by
  obtain ⟨p, l, e, R, s, m, args, below, meth, c, nL, cl, D, cid, A, ad0, k0, Qf⟩ := Γ
  obtain ⟨hx, hb, hml, hown, hr, hnm, hts, hlocks, hK, hA, hZ, hfr, hlo, hmc, hms, hXt⟩ := C
  intro J nx hJ hn L st K h ce sl ho
  unfold o_idiv at ho
  split at ho
  · intro hk ad H locs ls h1 h2 h3 h4 h5
    exact lv_idiv hx hb hd ho.1 (hn _ _ _ _ _ _ ho.2 hk ad H locs ls h1 h2 h3 h4 h5)
  · exact ho.elim
def o_irem : jO := fun _ _ nx L st K h ce sl => match st with
  | .int y :: .int x :: r => ¬ y = 0 ∧ nx L (.int (x - x / y * y) :: r) K h ce sl
  | _ => False
theorem so_irem {Γ : jΓ} {Q : jPost} {cc : ByteArray} {own nm : String} {rt : Option FieldType} {ws : List Cond} {fr lo mc ms : Nat} (C : jC Γ cc own nm rt ws fr lo mc ms) {pc : Nat} (hd : decode cc pc = .ok (.irem, 1)) : jSA Γ Q pc o_irem 1 := by
  obtain ⟨p, l, e, R, s, m, args, below, meth, c, nL, cl, D, cid, A, ad0, k0, Qf⟩ := Γ
  obtain ⟨hx, hb, hml, hown, hr, hnm, hts, hlocks, hK, hA, hZ, hfr, hlo, hmc, hms, hXt⟩ := C
  intro J nx hJ hn L st K h ce sl ho
  unfold o_irem at ho
  split at ho
  · intro hk ad H locs ls h1 h2 h3 h4 h5
    exact lv_irem hx hb hd ho.1 (hn _ _ _ _ _ _ ho.2 hk ad H locs ls h1 h2 h3 h4 h5)
  · exact ho.elim
def o_ineg : jO := fun _ _ nx L st K h ce sl => match st with
  | .int x :: r => nx L (.int (-x) :: r) K h ce sl
  | _ => False
theorem so_ineg {Γ : jΓ} {Q : jPost} {cc : ByteArray} {own nm : String} {rt : Option FieldType} {ws : List Cond} {fr lo mc ms : Nat} (C : jC Γ cc own nm rt ws fr lo mc ms) {pc : Nat}  (hd : decode cc pc = .ok (.ineg, 1)) : jSA Γ Q pc (o_ineg) 1 := by
  obtain ⟨p, l, e, R, s, m, args, below, meth, c, nL, cl, D, cid, A, ad0, k0, Qf⟩ := Γ
  obtain ⟨hx, hb, hml, hown, hr, hnm, hts, hlocks, hK, hA, hZ, hfr, hlo, hmc, hms, hXt⟩ := C
  intro J nx hJ hn L st K h ce sl ho
  unfold o_ineg at ho
  split at ho
  · intro hk ad H locs ls h1 h2 h3 h4 h5
    exact lv_ineg hx hb hd (hn _ _ _ _ _ _ ho hk ad H locs ls h1 h2 h3 h4 h5)
  · exact ho.elim
def o_i2l : jO := fun _ _ nx L st K h ce sl => match st with
  | .int x :: r => nx L (.long x.toInt64 :: r) K h ce sl
  | _ => False
theorem so_i2l {Γ : jΓ} {Q : jPost} {cc : ByteArray} {own nm : String} {rt : Option FieldType} {ws : List Cond} {fr lo mc ms : Nat} (C : jC Γ cc own nm rt ws fr lo mc ms) {pc : Nat}  (hd : decode cc pc = .ok (.i2l, 1)) : jSA Γ Q pc (o_i2l) 1 := by
  obtain ⟨p, l, e, R, s, m, args, below, meth, c, nL, cl, D, cid, A, ad0, k0, Qf⟩ := Γ
  obtain ⟨hx, hb, hml, hown, hr, hnm, hts, hlocks, hK, hA, hZ, hfr, hlo, hmc, hms, hXt⟩ := C
  intro J nx hJ hn L st K h ce sl ho
  unfold o_i2l at ho
  split at ho
  · intro hk ad H locs ls h1 h2 h3 h4 h5
    exact lv_i2l hx hb hd rfl (hn _ _ _ _ _ _ ho hk ad H locs ls h1 h2 h3 h4 h5)
  · exact ho.elim
def o_l2i : jO := fun _ _ nx L st K h ce sl => match st with
  | .long x :: r => nx L (.int x.toInt32 :: r) K h ce sl
  | _ => False
theorem so_l2i {Γ : jΓ} {Q : jPost} {cc : ByteArray} {own nm : String} {rt : Option FieldType} {ws : List Cond} {fr lo mc ms : Nat} (C : jC Γ cc own nm rt ws fr lo mc ms) {pc : Nat}  (hd : decode cc pc = .ok (.l2i, 1)) : jSA Γ Q pc (o_l2i) 1 := by
  obtain ⟨p, l, e, R, s, m, args, below, meth, c, nL, cl, D, cid, A, ad0, k0, Qf⟩ := Γ
  obtain ⟨hx, hb, hml, hown, hr, hnm, hts, hlocks, hK, hA, hZ, hfr, hlo, hmc, hms, hXt⟩ := C
  intro J nx hJ hn L st K h ce sl ho
  unfold o_l2i at ho
  split at ho
  · intro hk ad H locs ls h1 h2 h3 h4 h5
    exact lv_l2i hx hb hd rfl (hn _ _ _ _ _ _ ho hk ad H locs ls h1 h2 h3 h4 h5)
  · exact ho.elim
def o_i2b : jO := fun _ _ nx L st K h ce sl => match st with
  | .int x :: r => nx L (.int x.toInt8.toInt32 :: r) K h ce sl
  | _ => False
theorem so_i2b {Γ : jΓ} {Q : jPost} {cc : ByteArray} {own nm : String} {rt : Option FieldType} {ws : List Cond} {fr lo mc ms : Nat} (C : jC Γ cc own nm rt ws fr lo mc ms) {pc : Nat}  (hd : decode cc pc = .ok (.i2b, 1)) : jSA Γ Q pc (o_i2b) 1 := by
  obtain ⟨p, l, e, R, s, m, args, below, meth, c, nL, cl, D, cid, A, ad0, k0, Qf⟩ := Γ
  obtain ⟨hx, hb, hml, hown, hr, hnm, hts, hlocks, hK, hA, hZ, hfr, hlo, hmc, hms, hXt⟩ := C
  intro J nx hJ hn L st K h ce sl ho
  unfold o_i2b at ho
  split at ho
  · intro hk ad H locs ls h1 h2 h3 h4 h5
    exact lv_i2b hx hb hd rfl (hn _ _ _ _ _ _ ho hk ad H locs ls h1 h2 h3 h4 h5)
  · exact ho.elim
def o_i2s : jO := fun _ _ nx L st K h ce sl => match st with
  | .int x :: r => nx L (.int x.toInt16.toInt32 :: r) K h ce sl
  | _ => False
theorem so_i2s {Γ : jΓ} {Q : jPost} {cc : ByteArray} {own nm : String} {rt : Option FieldType} {ws : List Cond} {fr lo mc ms : Nat} (C : jC Γ cc own nm rt ws fr lo mc ms) {pc : Nat}  (hd : decode cc pc = .ok (.i2s, 1)) : jSA Γ Q pc (o_i2s) 1 := by
  obtain ⟨p, l, e, R, s, m, args, below, meth, c, nL, cl, D, cid, A, ad0, k0, Qf⟩ := Γ
  obtain ⟨hx, hb, hml, hown, hr, hnm, hts, hlocks, hK, hA, hZ, hfr, hlo, hmc, hms, hXt⟩ := C
  intro J nx hJ hn L st K h ce sl ho
  unfold o_i2s at ho
  split at ho
  · intro hk ad H locs ls h1 h2 h3 h4 h5
    exact lv_i2s hx hb hd rfl (hn _ _ _ _ _ _ ho hk ad H locs ls h1 h2 h3 h4 h5)
  · exact ho.elim
def o_lushr : jO := fun _ _ nx L st K h ce sl => match st with
  | .int y :: .long x :: r => nx L (.long (x.toUInt64 >>> (y.toInt64.toUInt64 &&& Int64.toUInt64 63)).toInt64 :: r) K h ce sl
  | _ => False
theorem so_lushr {Γ : jΓ} {Q : jPost} {cc : ByteArray} {own nm : String} {rt : Option FieldType} {ws : List Cond} {fr lo mc ms : Nat} (C : jC Γ cc own nm rt ws fr lo mc ms) {pc : Nat}  (hd : decode cc pc = .ok (.lushr, 1)) : jSA Γ Q pc (o_lushr) 1 := by
  obtain ⟨p, l, e, R, s, m, args, below, meth, c, nL, cl, D, cid, A, ad0, k0, Qf⟩ := Γ
  obtain ⟨hx, hb, hml, hown, hr, hnm, hts, hlocks, hK, hA, hZ, hfr, hlo, hmc, hms, hXt⟩ := C
  intro J nx hJ hn L st K h ce sl ho
  unfold o_lushr at ho
  split at ho
  · intro hk ad H locs ls h1 h2 h3 h4 h5
    exact lv_lushr hx hb hd rfl (hn _ _ _ _ _ _ ho hk ad H locs ls h1 h2 h3 h4 h5)
  · exact ho.elim
def o_lshr : jO := fun _ _ nx L st K h ce sl => match st with
  | .int y :: .long x :: r => nx L (.long (x >>> (y.toInt64 &&& 63)) :: r) K h ce sl
  | _ => False
theorem so_lshr {Γ : jΓ} {Q : jPost} {cc : ByteArray} {own nm : String} {rt : Option FieldType} {ws : List Cond} {fr lo mc ms : Nat} (C : jC Γ cc own nm rt ws fr lo mc ms) {pc : Nat}  (hd : decode cc pc = .ok (.lshr, 1)) : jSA Γ Q pc (o_lshr) 1 := by
  obtain ⟨p, l, e, R, s, m, args, below, meth, c, nL, cl, D, cid, A, ad0, k0, Qf⟩ := Γ
  obtain ⟨hx, hb, hml, hown, hr, hnm, hts, hlocks, hK, hA, hZ, hfr, hlo, hmc, hms, hXt⟩ := C
  intro J nx hJ hn L st K h ce sl ho
  unfold o_lshr at ho
  split at ho
  · intro hk ad H locs ls h1 h2 h3 h4 h5
    exact lv_lshr hx hb hd rfl (hn _ _ _ _ _ _ ho hk ad H locs ls h1 h2 h3 h4 h5)
  · exact ho.elim
def o_lshl : jO := fun _ _ nx L st K h ce sl => match st with
  | .int y :: .long x :: r => nx L (.long (x <<< (y.toInt64 &&& 63)) :: r) K h ce sl
  | _ => False
theorem so_lshl {Γ : jΓ} {Q : jPost} {cc : ByteArray} {own nm : String} {rt : Option FieldType} {ws : List Cond} {fr lo mc ms : Nat} (C : jC Γ cc own nm rt ws fr lo mc ms) {pc : Nat}  (hd : decode cc pc = .ok (.lshl, 1)) : jSA Γ Q pc (o_lshl) 1 := by
  obtain ⟨p, l, e, R, s, m, args, below, meth, c, nL, cl, D, cid, A, ad0, k0, Qf⟩ := Γ
  obtain ⟨hx, hb, hml, hown, hr, hnm, hts, hlocks, hK, hA, hZ, hfr, hlo, hmc, hms, hXt⟩ := C
  intro J nx hJ hn L st K h ce sl ho
  unfold o_lshl at ho
  split at ho
  · intro hk ad H locs ls h1 h2 h3 h4 h5
    exact lv_lshl hx hb hd rfl (hn _ _ _ _ _ _ ho hk ad H locs ls h1 h2 h3 h4 h5)
  · exact ho.elim
def o_lcmp : jO := fun _ _ nx L st K h ce sl => match st with
  | .long y :: .long x :: r => nx L (.int (lg_cmp x y) :: r) K h ce sl
  | _ => False
theorem so_lcmp {Γ : jΓ} {Q : jPost} {cc : ByteArray} {own nm : String} {rt : Option FieldType} {ws : List Cond} {fr lo mc ms : Nat} (C : jC Γ cc own nm rt ws fr lo mc ms) {pc : Nat}  (hd : decode cc pc = .ok (.lcmp, 1)) : jSA Γ Q pc (o_lcmp) 1 := by
  obtain ⟨p, l, e, R, s, m, args, below, meth, c, nL, cl, D, cid, A, ad0, k0, Qf⟩ := Γ
  obtain ⟨hx, hb, hml, hown, hr, hnm, hts, hlocks, hK, hA, hZ, hfr, hlo, hmc, hms, hXt⟩ := C
  intro J nx hJ hn L st K h ce sl ho
  unfold o_lcmp at ho
  split at ho
  · intro hk ad H locs ls h1 h2 h3 h4 h5
    exact W.lcmp hx hb hd (hn _ _ _ _ _ _ ho hk ad H locs ls h1 h2 h3 h4 h5)
  · exact ho.elim
def o_ifeq (t : Nat) : jO := fun J _ nx L st K h ce sl => match st with
  | .int x :: r => (x = 0 → J t L r K h ce sl) ∧ (¬ x = 0 → nx L r K h ce sl)
  | _ => False
theorem so_ifeq {Γ : jΓ} {Q : jPost} {cc : ByteArray} {own nm : String} {rt : Option FieldType} {ws : List Cond} {fr lo mc ms : Nat} (C : jC Γ cc own nm rt ws fr lo mc ms) {pc : Nat} {off : Int} {t : Nat} (ht : (pc : Int) + off = (t : Int)) (hd : decode cc pc = .ok (.ifCond .eq off, 3)) : jSA Γ Q pc (o_ifeq t) 3 := by
  obtain ⟨p, l, e, R, s, m, args, below, meth, c, nL, cl, D, cid, A, ad0, k0, Qf⟩ := Γ
  obtain ⟨hx, hb, hml, hown, hr, hnm, hts, hlocks, hK, hA, hZ, hfr, hlo, hmc, hms, hXt⟩ := C
  intro J nx hJ hn L st K h ce sl ho
  unfold o_ifeq at ho
  split at ho
  · intro hk ad H locs ls h1 h2 h3 h4 h5
    exact lv_if_eq hx hb hd ht (fun q => hJ _ _ _ _ _ _ _ (ho.1 q) hk ad H locs ls h1 h2 h3 h4 h5) (fun q => hn _ _ _ _ _ _ (ho.2 q) hk ad H locs ls h1 h2 h3 h4 h5)
  · exact ho.elim
def o_iceq (t : Nat) : jO := fun J _ nx L st K h ce sl => match st with
  | .int y :: .int x :: r => (x = y → J t L r K h ce sl) ∧ (¬ x = y → nx L r K h ce sl)
  | _ => False
theorem so_iceq {Γ : jΓ} {Q : jPost} {cc : ByteArray} {own nm : String} {rt : Option FieldType} {ws : List Cond} {fr lo mc ms : Nat} (C : jC Γ cc own nm rt ws fr lo mc ms) {pc : Nat} {off : Int} {t : Nat} (ht : (pc : Int) + off = (t : Int)) (hd : decode cc pc = .ok (.if_icmp .eq off, 3)) : jSA Γ Q pc (o_iceq t) 3 := by
  obtain ⟨p, l, e, R, s, m, args, below, meth, c, nL, cl, D, cid, A, ad0, k0, Qf⟩ := Γ
  obtain ⟨hx, hb, hml, hown, hr, hnm, hts, hlocks, hK, hA, hZ, hfr, hlo, hmc, hms, hXt⟩ := C
  intro J nx hJ hn L st K h ce sl ho
  unfold o_iceq at ho
  split at ho
  · intro hk ad H locs ls h1 h2 h3 h4 h5
    exact lv_icmp_eq hx hb hd ht (fun q => hJ _ _ _ _ _ _ _ (ho.1 q) hk ad H locs ls h1 h2 h3 h4 h5) (fun q => hn _ _ _ _ _ _ (ho.2 q) hk ad H locs ls h1 h2 h3 h4 h5)
  · exact ho.elim
def o_ifne (t : Nat) : jO := fun J _ nx L st K h ce sl => match st with
  | .int x :: r => (¬ x = 0 → J t L r K h ce sl) ∧ (x = 0 → nx L r K h ce sl)
  | _ => False
theorem so_ifne {Γ : jΓ} {Q : jPost} {cc : ByteArray} {own nm : String} {rt : Option FieldType} {ws : List Cond} {fr lo mc ms : Nat} (C : jC Γ cc own nm rt ws fr lo mc ms) {pc : Nat} {off : Int} {t : Nat} (ht : (pc : Int) + off = (t : Int)) (hd : decode cc pc = .ok (.ifCond .ne off, 3)) : jSA Γ Q pc (o_ifne t) 3 := by
  obtain ⟨p, l, e, R, s, m, args, below, meth, c, nL, cl, D, cid, A, ad0, k0, Qf⟩ := Γ
  obtain ⟨hx, hb, hml, hown, hr, hnm, hts, hlocks, hK, hA, hZ, hfr, hlo, hmc, hms, hXt⟩ := C
  intro J nx hJ hn L st K h ce sl ho
  unfold o_ifne at ho
  split at ho
  · intro hk ad H locs ls h1 h2 h3 h4 h5
    exact lv_if_ne hx hb hd ht (fun q => hJ _ _ _ _ _ _ _ (ho.1 q) hk ad H locs ls h1 h2 h3 h4 h5) (fun q => hn _ _ _ _ _ _ (ho.2 q) hk ad H locs ls h1 h2 h3 h4 h5)
  · exact ho.elim
def o_icne (t : Nat) : jO := fun J _ nx L st K h ce sl => match st with
  | .int y :: .int x :: r => (¬ x = y → J t L r K h ce sl) ∧ (x = y → nx L r K h ce sl)
  | _ => False
theorem so_icne {Γ : jΓ} {Q : jPost} {cc : ByteArray} {own nm : String} {rt : Option FieldType} {ws : List Cond} {fr lo mc ms : Nat} (C : jC Γ cc own nm rt ws fr lo mc ms) {pc : Nat} {off : Int} {t : Nat} (ht : (pc : Int) + off = (t : Int)) (hd : decode cc pc = .ok (.if_icmp .ne off, 3)) : jSA Γ Q pc (o_icne t) 3 := by
  obtain ⟨p, l, e, R, s, m, args, below, meth, c, nL, cl, D, cid, A, ad0, k0, Qf⟩ := Γ
  obtain ⟨hx, hb, hml, hown, hr, hnm, hts, hlocks, hK, hA, hZ, hfr, hlo, hmc, hms, hXt⟩ := C
  intro J nx hJ hn L st K h ce sl ho
  unfold o_icne at ho
  split at ho
  · intro hk ad H locs ls h1 h2 h3 h4 h5
    exact lv_icmp_ne hx hb hd ht (fun q => hJ _ _ _ _ _ _ _ (ho.1 q) hk ad H locs ls h1 h2 h3 h4 h5) (fun q => hn _ _ _ _ _ _ (ho.2 q) hk ad H locs ls h1 h2 h3 h4 h5)
  · exact ho.elim
def o_iflt (t : Nat) : jO := fun J _ nx L st K h ce sl => match st with
  | .int x :: r => (x < 0 → J t L r K h ce sl) ∧ (¬ x < 0 → nx L r K h ce sl)
  | _ => False
theorem so_iflt {Γ : jΓ} {Q : jPost} {cc : ByteArray} {own nm : String} {rt : Option FieldType} {ws : List Cond} {fr lo mc ms : Nat} (C : jC Γ cc own nm rt ws fr lo mc ms) {pc : Nat} {off : Int} {t : Nat} (ht : (pc : Int) + off = (t : Int)) (hd : decode cc pc = .ok (.ifCond .lt off, 3)) : jSA Γ Q pc (o_iflt t) 3 := by
  obtain ⟨p, l, e, R, s, m, args, below, meth, c, nL, cl, D, cid, A, ad0, k0, Qf⟩ := Γ
  obtain ⟨hx, hb, hml, hown, hr, hnm, hts, hlocks, hK, hA, hZ, hfr, hlo, hmc, hms, hXt⟩ := C
  intro J nx hJ hn L st K h ce sl ho
  unfold o_iflt at ho
  split at ho
  · intro hk ad H locs ls h1 h2 h3 h4 h5
    exact lv_if_lt hx hb hd ht (fun q => hJ _ _ _ _ _ _ _ (ho.1 q) hk ad H locs ls h1 h2 h3 h4 h5) (fun q => hn _ _ _ _ _ _ (ho.2 q) hk ad H locs ls h1 h2 h3 h4 h5)
  · exact ho.elim
def o_iclt (t : Nat) : jO := fun J _ nx L st K h ce sl => match st with
  | .int y :: .int x :: r => (x < y → J t L r K h ce sl) ∧ (¬ x < y → nx L r K h ce sl)
  | _ => False
theorem so_iclt {Γ : jΓ} {Q : jPost} {cc : ByteArray} {own nm : String} {rt : Option FieldType} {ws : List Cond} {fr lo mc ms : Nat} (C : jC Γ cc own nm rt ws fr lo mc ms) {pc : Nat} {off : Int} {t : Nat} (ht : (pc : Int) + off = (t : Int)) (hd : decode cc pc = .ok (.if_icmp .lt off, 3)) : jSA Γ Q pc (o_iclt t) 3 := by
  obtain ⟨p, l, e, R, s, m, args, below, meth, c, nL, cl, D, cid, A, ad0, k0, Qf⟩ := Γ
  obtain ⟨hx, hb, hml, hown, hr, hnm, hts, hlocks, hK, hA, hZ, hfr, hlo, hmc, hms, hXt⟩ := C
  intro J nx hJ hn L st K h ce sl ho
  unfold o_iclt at ho
  split at ho
  · intro hk ad H locs ls h1 h2 h3 h4 h5
    exact lv_icmp_lt hx hb hd ht (fun q => hJ _ _ _ _ _ _ _ (ho.1 q) hk ad H locs ls h1 h2 h3 h4 h5) (fun q => hn _ _ _ _ _ _ (ho.2 q) hk ad H locs ls h1 h2 h3 h4 h5)
  · exact ho.elim
def o_ifge (t : Nat) : jO := fun J _ nx L st K h ce sl => match st with
  | .int x :: r => (0 ≤ x → J t L r K h ce sl) ∧ (¬ 0 ≤ x → nx L r K h ce sl)
  | _ => False
theorem so_ifge {Γ : jΓ} {Q : jPost} {cc : ByteArray} {own nm : String} {rt : Option FieldType} {ws : List Cond} {fr lo mc ms : Nat} (C : jC Γ cc own nm rt ws fr lo mc ms) {pc : Nat} {off : Int} {t : Nat} (ht : (pc : Int) + off = (t : Int)) (hd : decode cc pc = .ok (.ifCond .ge off, 3)) : jSA Γ Q pc (o_ifge t) 3 := by
  obtain ⟨p, l, e, R, s, m, args, below, meth, c, nL, cl, D, cid, A, ad0, k0, Qf⟩ := Γ
  obtain ⟨hx, hb, hml, hown, hr, hnm, hts, hlocks, hK, hA, hZ, hfr, hlo, hmc, hms, hXt⟩ := C
  intro J nx hJ hn L st K h ce sl ho
  unfold o_ifge at ho
  split at ho
  · intro hk ad H locs ls h1 h2 h3 h4 h5
    exact lv_if_ge hx hb hd ht (fun q => hJ _ _ _ _ _ _ _ (ho.1 q) hk ad H locs ls h1 h2 h3 h4 h5) (fun q => hn _ _ _ _ _ _ (ho.2 q) hk ad H locs ls h1 h2 h3 h4 h5)
  · exact ho.elim
def o_icge (t : Nat) : jO := fun J _ nx L st K h ce sl => match st with
  | .int y :: .int x :: r => (y ≤ x → J t L r K h ce sl) ∧ (¬ y ≤ x → nx L r K h ce sl)
  | _ => False
theorem so_icge {Γ : jΓ} {Q : jPost} {cc : ByteArray} {own nm : String} {rt : Option FieldType} {ws : List Cond} {fr lo mc ms : Nat} (C : jC Γ cc own nm rt ws fr lo mc ms) {pc : Nat} {off : Int} {t : Nat} (ht : (pc : Int) + off = (t : Int)) (hd : decode cc pc = .ok (.if_icmp .ge off, 3)) : jSA Γ Q pc (o_icge t) 3 := by
  obtain ⟨p, l, e, R, s, m, args, below, meth, c, nL, cl, D, cid, A, ad0, k0, Qf⟩ := Γ
  obtain ⟨hx, hb, hml, hown, hr, hnm, hts, hlocks, hK, hA, hZ, hfr, hlo, hmc, hms, hXt⟩ := C
  intro J nx hJ hn L st K h ce sl ho
  unfold o_icge at ho
  split at ho
  · intro hk ad H locs ls h1 h2 h3 h4 h5
    exact lv_icmp_ge hx hb hd ht (fun q => hJ _ _ _ _ _ _ _ (ho.1 q) hk ad H locs ls h1 h2 h3 h4 h5) (fun q => hn _ _ _ _ _ _ (ho.2 q) hk ad H locs ls h1 h2 h3 h4 h5)
  · exact ho.elim
def o_ifgt (t : Nat) : jO := fun J _ nx L st K h ce sl => match st with
  | .int x :: r => (0 < x → J t L r K h ce sl) ∧ (¬ 0 < x → nx L r K h ce sl)
  | _ => False
theorem so_ifgt {Γ : jΓ} {Q : jPost} {cc : ByteArray} {own nm : String} {rt : Option FieldType} {ws : List Cond} {fr lo mc ms : Nat} (C : jC Γ cc own nm rt ws fr lo mc ms) {pc : Nat} {off : Int} {t : Nat} (ht : (pc : Int) + off = (t : Int)) (hd : decode cc pc = .ok (.ifCond .gt off, 3)) : jSA Γ Q pc (o_ifgt t) 3 := by
  obtain ⟨p, l, e, R, s, m, args, below, meth, c, nL, cl, D, cid, A, ad0, k0, Qf⟩ := Γ
  obtain ⟨hx, hb, hml, hown, hr, hnm, hts, hlocks, hK, hA, hZ, hfr, hlo, hmc, hms, hXt⟩ := C
  intro J nx hJ hn L st K h ce sl ho
  unfold o_ifgt at ho
  split at ho
  · intro hk ad H locs ls h1 h2 h3 h4 h5
    exact lv_if_gt hx hb hd ht (fun q => hJ _ _ _ _ _ _ _ (ho.1 q) hk ad H locs ls h1 h2 h3 h4 h5) (fun q => hn _ _ _ _ _ _ (ho.2 q) hk ad H locs ls h1 h2 h3 h4 h5)
  · exact ho.elim
def o_icgt (t : Nat) : jO := fun J _ nx L st K h ce sl => match st with
  | .int y :: .int x :: r => (y < x → J t L r K h ce sl) ∧ (¬ y < x → nx L r K h ce sl)
  | _ => False
theorem so_icgt {Γ : jΓ} {Q : jPost} {cc : ByteArray} {own nm : String} {rt : Option FieldType} {ws : List Cond} {fr lo mc ms : Nat} (C : jC Γ cc own nm rt ws fr lo mc ms) {pc : Nat} {off : Int} {t : Nat} (ht : (pc : Int) + off = (t : Int)) (hd : decode cc pc = .ok (.if_icmp .gt off, 3)) : jSA Γ Q pc (o_icgt t) 3 := by
  obtain ⟨p, l, e, R, s, m, args, below, meth, c, nL, cl, D, cid, A, ad0, k0, Qf⟩ := Γ
  obtain ⟨hx, hb, hml, hown, hr, hnm, hts, hlocks, hK, hA, hZ, hfr, hlo, hmc, hms, hXt⟩ := C
  intro J nx hJ hn L st K h ce sl ho
  unfold o_icgt at ho
  split at ho
  · intro hk ad H locs ls h1 h2 h3 h4 h5
    exact lv_icmp_gt hx hb hd ht (fun q => hJ _ _ _ _ _ _ _ (ho.1 q) hk ad H locs ls h1 h2 h3 h4 h5) (fun q => hn _ _ _ _ _ _ (ho.2 q) hk ad H locs ls h1 h2 h3 h4 h5)
  · exact ho.elim
def o_ifle (t : Nat) : jO := fun J _ nx L st K h ce sl => match st with
  | .int x :: r => (x ≤ 0 → J t L r K h ce sl) ∧ (¬ x ≤ 0 → nx L r K h ce sl)
  | _ => False
theorem so_ifle {Γ : jΓ} {Q : jPost} {cc : ByteArray} {own nm : String} {rt : Option FieldType} {ws : List Cond} {fr lo mc ms : Nat} (C : jC Γ cc own nm rt ws fr lo mc ms) {pc : Nat} {off : Int} {t : Nat} (ht : (pc : Int) + off = (t : Int)) (hd : decode cc pc = .ok (.ifCond .le off, 3)) : jSA Γ Q pc (o_ifle t) 3 := by
  obtain ⟨p, l, e, R, s, m, args, below, meth, c, nL, cl, D, cid, A, ad0, k0, Qf⟩ := Γ
  obtain ⟨hx, hb, hml, hown, hr, hnm, hts, hlocks, hK, hA, hZ, hfr, hlo, hmc, hms, hXt⟩ := C
  intro J nx hJ hn L st K h ce sl ho
  unfold o_ifle at ho
  split at ho
  · intro hk ad H locs ls h1 h2 h3 h4 h5
    exact lv_if_le hx hb hd ht (fun q => hJ _ _ _ _ _ _ _ (ho.1 q) hk ad H locs ls h1 h2 h3 h4 h5) (fun q => hn _ _ _ _ _ _ (ho.2 q) hk ad H locs ls h1 h2 h3 h4 h5)
  · exact ho.elim
def o_icle (t : Nat) : jO := fun J _ nx L st K h ce sl => match st with
  | .int y :: .int x :: r => (x ≤ y → J t L r K h ce sl) ∧ (¬ x ≤ y → nx L r K h ce sl)
  | _ => False
theorem so_icle {Γ : jΓ} {Q : jPost} {cc : ByteArray} {own nm : String} {rt : Option FieldType} {ws : List Cond} {fr lo mc ms : Nat} (C : jC Γ cc own nm rt ws fr lo mc ms) {pc : Nat} {off : Int} {t : Nat} (ht : (pc : Int) + off = (t : Int)) (hd : decode cc pc = .ok (.if_icmp .le off, 3)) : jSA Γ Q pc (o_icle t) 3 := by
  obtain ⟨p, l, e, R, s, m, args, below, meth, c, nL, cl, D, cid, A, ad0, k0, Qf⟩ := Γ
  obtain ⟨hx, hb, hml, hown, hr, hnm, hts, hlocks, hK, hA, hZ, hfr, hlo, hmc, hms, hXt⟩ := C
  intro J nx hJ hn L st K h ce sl ho
  unfold o_icle at ho
  split at ho
  · intro hk ad H locs ls h1 h2 h3 h4 h5
    exact lv_icmp_le hx hb hd ht (fun q => hJ _ _ _ _ _ _ _ (ho.1 q) hk ad H locs ls h1 h2 h3 h4 h5) (fun q => hn _ _ _ _ _ _ (ho.2 q) hk ad H locs ls h1 h2 h3 h4 h5)
  · exact ho.elim
def o_goto (t : Nat) : jO := fun J _ _ L st K h ce sl => J t L st K h ce sl
theorem so_goto {Γ : jΓ} {Q : jPost} {cc : ByteArray} {own nm : String} {rt : Option FieldType} {ws : List Cond} {fr lo mc ms : Nat} (C : jC Γ cc own nm rt ws fr lo mc ms) {pc : Nat} {off : Int} {t : Nat} (ht : (pc : Int) + off = (t : Int)) (hd : decode cc pc = .ok (.goto off, 3)) : jSA Γ Q pc (o_goto t) 3 := by
  obtain ⟨p, l, e, R, s, m, args, below, meth, c, nL, cl, D, cid, A, ad0, k0, Qf⟩ := Γ
  obtain ⟨hx, hb, hml, hown, hr, hnm, hts, hlocks, hK, hA, hZ, hfr, hlo, hmc, hms, hXt⟩ := C
  intro J nx hJ hn L st K h ce sl ho
  intro hk ad H locs ls h1 h2 h3 h4 h5
  exact lv_goto hx hb hd ht (hJ _ _ _ _ _ _ _ ho hk ad H locs ls h1 h2 h3 h4 h5)
def jsw (G : Nat → Prop) (x : Int) : Int → List Nat → Prop
  | _, [] => True
  | i, t :: ts => (x = i → G t) ∧ jsw G x (i + 1) ts
theorem jsw_at {G : Nat → Prop} {x : Int} : ∀ (ts : List Nat) (i : Int) (k t : Nat), jsw G x i ts → ts[k]? = some t → x = i + k → G t
  | [], i, k, t, h, ht, hx => by simp at ht
  | a :: ts, i, 0, t, h, ht, hx => by
    simp at ht; subst ht
    exact h.1 (by omega)
  | a :: ts, i, k + 1, t, h, ht, hx => jsw_at ts (i + 1) k t h.2 (by simpa using ht) (by omega)
def o_tsw (lo : Int) (d : Nat) (ts : List Nat) : jO := fun J _ _ L st K h ce sl => match st with
  | .int x :: r => ((x.toInt < lo ∨ lo + ts.length ≤ x.toInt) → J d L r K h ce sl) ∧ jsw (fun t => J t L r K h ce sl) x.toInt lo ts
  | _ => False
theorem so_tsw {Γ : jΓ} {Q : jPost} {cc : ByteArray} {own nm : String} {rt : Option FieldType} {ws : List Cond} {fr lo mc ms : Nat} (C : jC Γ cc own nm rt ws fr lo mc ms) {pc : Nat} {dflt lo hi : Int} {offs : Array Int} {len d : Nat} {ts : List Nat} (h0 : hi + 1 = lo + ts.length) (hdf : (pc : Int) + dflt = (d : Int)) (hof : offs.toList.map (fun o => (pc : Int) + o) = ts.map (fun t : Nat => (t : Int))) (hd : decode cc pc = .ok (.tableswitch dflt lo hi offs, len)) : jSA Γ Q pc (o_tsw lo d ts) len := by
  obtain ⟨p, l, e, R, s, m, args, below, meth, c, nL, cl, D, cid, A, ad0, k0, Qf⟩ := Γ
  obtain ⟨hx, hb, hml, hown, hr, hnm, hts, hlocks, hK, hA, hZ, hfr, hlo, hmc, hms, hXt⟩ := C
  intro J nx hJ hn L st K h ce sl ho
  unfold o_tsw at ho
  split at ho
  · rename_i x r
    intro hk ad H locs ls h1 h2 h3 h4 h5
    obtain ⟨ho1, ho2⟩ := ho
    by_cases hc : x.toInt < lo ∨ hi < x.toInt
    · exact lv_tableOut hx hb hd hc hdf (hJ _ _ _ _ _ _ _ (ho1 (by omega)) hk ad H locs ls h1 h2 h3 h4 h5)
    · have hj : (x.toInt - lo).toNat < ts.length := by omega
      have e1 := congrArg (fun z : List Int => z[(x.toInt - lo).toNat]?) hof
      simp only [List.getElem?_map, List.getElem?_eq_getElem hj, Option.map_some] at e1
      cases ho3 : offs.toList[(x.toInt - lo).toNat]? with
      | none => rw [ho3] at e1; cases e1
      | some off =>
        rw [ho3] at e1
        have e2 : (pc : Int) + off = ((ts[(x.toInt - lo).toNat] : Nat) : Int) := Option.some.inj e1
        have hl : lo ≤ x.toInt := Int.not_lt.mp fun q => hc (Or.inl q)
        have hjs := jsw_at ts lo (x.toInt - lo).toNat _ ho2 (List.getElem?_eq_getElem hj) (by omega)
        exact lv_tableIn hx hb hd (fun q => hc (Or.inl q)) (fun q => hc (Or.inr q)) (by rw [← Array.getElem?_toList]; exact ho3) e2 (hJ _ _ _ _ _ _ _ hjs hk ad H locs ls h1 h2 h3 h4 h5)
  · exact ho.elim
def jlk (G : Nat → Prop) (x : Int) (d : Nat) : List (Int × Nat) → Prop
  | [] => G d
  | (a, t) :: ps => (x = a → G t) ∧ (¬ x = a → jlk G x d ps)
theorem jlk_at {G : Nat → Prop} {x : Int} {pc d : Nat} {dflt : Int} (hdf : (pc : Int) + dflt = (d : Int)) : ∀ (l : List (Int × Int)) (ps : List (Int × Nat)), l.map (fun q => (q.1, (pc : Int) + q.2)) = ps.map (fun q : Int × Nat => (q.1, (q.2 : Int))) → jlk G x d ps → ∃ t : Nat, (pc : Int) + Op.lookupswitch.offset l dflt x = (t : Int) ∧ G t
  | [], [], _, h => ⟨d, hdf, h⟩
  | [], _ :: _, e, _ => by simp at e
  | _ :: _, [], e, _ => by simp at e
  | (a, o) :: l, (b, t) :: ps, e, h => by
    simp only [List.map_cons, List.cons.injEq, Prod.mk.injEq] at e
    obtain ⟨⟨rfl, e1⟩, e2⟩ := e
    rw [Op.lookupswitch.offset_cons]
    by_cases hx : a = x
    · rw [if_pos hx]
      exact ⟨t, e1, h.1 hx.symm⟩
    · rw [if_neg hx]
      exact jlk_at hdf l ps e2 (h.2 (fun q => hx q.symm))
def o_lsw (d : Nat) (ps : List (Int × Nat)) : jO := fun J _ _ L st K h ce sl => match st with
  | .int x :: r => jlk (fun t => J t L r K h ce sl) x.toInt d ps
  | _ => False
theorem so_lsw {Γ : jΓ} {Q : jPost} {cc : ByteArray} {own nm : String} {rt : Option FieldType} {ws : List Cond} {fr lo mc ms : Nat} (C : jC Γ cc own nm rt ws fr lo mc ms) {pc : Nat} {dflt : Int} {prs : Array (Int × Int)} {len d : Nat} {ps : List (Int × Nat)} (hp : (prs.toList.zip (prs.toList.drop 1)).all (fun (a, next) => a.1 < next.1) = true) (hdf : (pc : Int) + dflt = (d : Int)) (hof : prs.toList.map (fun q => (q.1, (pc : Int) + q.2)) = ps.map (fun q : Int × Nat => (q.1, (q.2 : Int)))) (hd : decode cc pc = .ok (.lookupswitch dflt prs, len)) : jSA Γ Q pc (o_lsw d ps) len := by
  obtain ⟨p, l, e, R, s, m, args, below, meth, c, nL, cl, D, cid, A, ad0, k0, Qf⟩ := Γ
  obtain ⟨hx, hb, hml, hown, hr, hnm, hts, hlocks, hK, hA, hZ, hfr, hlo, hmc, hms, hXt⟩ := C
  intro J nx hJ hn L st K h ce sl ho
  unfold o_lsw at ho
  split at ho
  · intro hk ad H locs ls h1 h2 h3 h4 h5
    obtain ⟨t, e1, e2⟩ := jlk_at hdf _ _ hof ho
    exact lv_lookup hx hb hd hp rfl e1 (hJ _ _ _ _ _ _ _ e2 hk ad H locs ls h1 h2 h3 h4 h5)
  · exact ho.elim
/-- the kind of field k of cell a, an object of class ci -/
def jgf (K : List jK) (a ci k : Nat) : Option jF := match K[a]? with
  | some (.inl (c2, fs)) => if c2 = ci then fs[k]? else none
  | _ => none
theorem jgf_eq {K : List jK} {a ci k : Nat} {f : jF} (h : jgf K a ci k = some f) : ∃ fs, K[a]? = some (.inl (ci, fs)) ∧ fs[k]? = some f := by
  unfold jgf at h
  split at h
  · rename_i c2 fs hk
    split at h
    · rename_i hc
      subst hc
      exact ⟨fs, hk, h⟩
    · cases h
  · cases h
theorem jfs_at {ad : Nat → Nat} {r : Nat → Int32} {fs : List jF} {k : Nat} {f : jF} (h : fs[k]? = some f) : (jfs ad r fs)[k]? = some (jfv ad (r k) f) := by
  unfold jfs
  rw [List.getElem?_mapIdx, h]; rfl
theorem jfs_upd {ad : Nat → Nat} {r : Nat → Int32} {fs : List jF} {k : Nat} {v : Int32} (h : fs[k]? = some none) : jfs ad (upd r k v) fs = (jfs ad r fs).set k (.int v) := by
  apply List.ext_getElem?
  intro i
  have hlt : k < (jfs ad r fs).length := (List.getElem?_eq_some_iff.mp (jfs_at (ad := ad) (r := r) h)).1
  unfold jfs at hlt ⊢
  by_cases hi : k = i
  · subst hi
    rw [List.getElem?_set_self hlt, List.getElem?_mapIdx, h]
    simp [jfv, upd]
  · rw [List.getElem?_set_ne hi, List.getElem?_mapIdx, List.getElem?_mapIdx]
    have : ¬ i = k := fun q => hi q.symm
    simp [upd, this]
theorem jfs_setf {ad : Nat → Nat} {r : Nat → Int32} {fs : List jF} {k : Nat} {f f' : jF} (h : fs[k]? = some f) : jfs ad r (fs.set k f') = (jfs ad r fs).set k (jfv ad (r k) f') := by
  apply List.ext_getElem?
  intro i
  have hlt : k < (jfs ad r fs).length := (List.getElem?_eq_some_iff.mp (jfs_at (ad := ad) (r := r) h)).1
  have hlt2 : k < fs.length := (List.getElem?_eq_some_iff.mp h).1
  unfold jfs at hlt ⊢
  by_cases hi : k = i
  · subst hi
    rw [List.getElem?_set_self hlt, List.getElem?_mapIdx, List.getElem?_set_self hlt2]
    rfl
  · rw [List.getElem?_set_ne hi, List.getElem?_mapIdx, List.getElem?_mapIdx, List.getElem?_set_ne hi]
def o_getf (ci k : Nat) : jO := fun _ _ nx L st K h ce sl => match st with
  | .ref a :: r => match jgf K a ci k with
    | some f => nx L (jfw (h a k) f :: r) K h ce sl
    | none => False
  | _ => False
theorem so_getf {Γ : jΓ} {Q : jPost} {cc : ByteArray} {own nm : String} {rt : Option FieldType} {ws : List Cond} {fr lo mc ms : Nat} (C : jC Γ cc own nm rt ws fr lo mc ms) {pc : Nat} {Cn : String} {T : u_T} {N ci index : Nat} (hin : ∀ w ∈ u_ws Cn T N, w ∈ ws) (hc : Γ.2.2.2.2.2.2.2.2.2.2.2.1[ci]? = some (Cn, T, N)) (k : Nat) (hk2 : k < N) (hlink : Cond.fieldLink own index (T k).1 (T k).2.1 (T k).2.2.1 ∈ ws) (hd : decode cc pc = .ok (.getfield index, 3)) : jSA Γ Q pc (o_getf ci k) 3 := by
  obtain ⟨p, l, e, R, s, m, args, below, meth, c, nL, cl, D, cid, A, ad0, k0, Qf⟩ := Γ
  obtain ⟨hx, hb, hml, hown, hr, hnm, hts, hlocks, hK, hA, hZ, hfr, hlo, hmc, hms, hXt⟩ := C
  intro J nx hJ hn L st K h ce sl ho
  unfold o_getf at ho
  split at ho
  · rename_i a r
    split at ho
    · rename_i f hf
      obtain ⟨fs, e1, e2⟩ := jgf_eq hf
      intro hk ad H locs ls h1 h2 h3 h4 h5
      refine va_get hx hb hts hin hown hK h2 a (jw_at e1) hc k hk2 (hts _ hlink) (fun _ q => q) (jfs_at e2) hd ?_
      have := hn _ _ _ _ _ _ ho hk ad H locs ls h1 h2 h3 h4 h5
      rw [List.map_cons, jfw_v] at this
      exact this
    · exact ho.elim
  · exact ho.elim
def o_putf (ci k : Nat) : jO := fun _ _ nx L st K h ce sl => match st with
  | .int x :: .ref a :: r => jgf K a ci k = some none ∧ nx L r K (up2 h a k x) ce sl
  | _ => False
theorem so_putf {Γ : jΓ} {Q : jPost} {cc : ByteArray} {own nm : String} {rt : Option FieldType} {ws : List Cond} {fr lo mc ms : Nat} (C : jC Γ cc own nm rt ws fr lo mc ms) {pc : Nat} {Cn : String} {T : u_T} {N ci index : Nat} (ty0 : Nat → FieldType) (hty : ∀ k, k < N → parseFieldDescriptor (T k).2.2.1 = some (ty0 k)) (hnm2 : ∀ a, a < N → ∀ b, b < N → a ≠ b → (T a).2.1 ≠ (T b).2.1) (hin : ∀ w ∈ u_ws Cn T N, w ∈ ws) (hc : Γ.2.2.2.2.2.2.2.2.2.2.2.1[ci]? = some (Cn, T, N)) (k : Nat) (hk2 : k < N) (hlink : Cond.fieldLink own index (T k).1 (T k).2.1 (T k).2.2.1 ∈ ws) (hfin : (T k).2.2.2 = false) (hdd : parseFieldDescriptor (T k).2.2.1 = some .int) (hd : decode cc pc = .ok (.putfield index, 3)) : jSA Γ Q pc (o_putf ci k) 3 := by
  obtain ⟨p, l, e, R, s, m, args, below, meth, c, nL, cl, D, cid, A, ad0, k0, Qf⟩ := Γ
  obtain ⟨hx, hb, hml, hown, hr, hnm, hts, hlocks, hK, hA, hZ, hfr, hlo, hmc, hms, hXt⟩ := C
  intro J nx hJ hn L st K h ce sl ho
  unfold o_putf at ho
  split at ho
  · rename_i x a r
    obtain ⟨fs, e1, e2⟩ := jgf_eq ho.1
    intro hk ad H locs ls h1 h2 h3 h4 h5
    refine va_put hx hb hts hin ty0 hty hnm2 hown hK h2 h3 h4 a (jw_at e1) hc k hk2 (hts _ hlink) (fun _ q => q) hfin hdd rfl rfl (List.getElem?_eq_some_iff.mp (jfs_at (ad := ad) (r := h a) e2)).1 hd (fun H1 locs1 g1 g2 g3 => ?_)
    have e3 : jw cid ad K (up2 h a k x) = (jw cid ad K h).set a (ad a, .inr (ci, (jfs ad (h a) fs).set k (.int x))) := by
      unfold up2
      rw [jw_upr e1, ← jfs_upd e2]; rfl
    exact hn _ _ _ _ _ _ ho.2 hk ad H1 locs1 ls h1 (by rw [e3]; exact g1) (by rw [e3]; exact g2) g3 h5
  · exact ho.elim
def o_putz (ci k : Nat) : jO := fun _ _ nx L st K h ce sl => match st with
  | .int x :: .ref a :: r => (x = 0 ∨ x = 1) ∧ jgf K a ci k = some none ∧ nx L r K (up2 h a k x) ce sl
  | _ => False
theorem so_putz {Γ : jΓ} {Q : jPost} {cc : ByteArray} {own nm : String} {rt : Option FieldType} {ws : List Cond} {fr lo mc ms : Nat} (C : jC Γ cc own nm rt ws fr lo mc ms) {pc : Nat} {Cn : String} {T : u_T} {N ci index : Nat} (ty0 : Nat → FieldType) (hty : ∀ k, k < N → parseFieldDescriptor (T k).2.2.1 = some (ty0 k)) (hnm2 : ∀ a, a < N → ∀ b, b < N → a ≠ b → (T a).2.1 ≠ (T b).2.1) (hin : ∀ w ∈ u_ws Cn T N, w ∈ ws) (hc : Γ.2.2.2.2.2.2.2.2.2.2.2.1[ci]? = some (Cn, T, N)) (k : Nat) (hk2 : k < N) (hlink : Cond.fieldLink own index (T k).1 (T k).2.1 (T k).2.2.1 ∈ ws) (hfin : (T k).2.2.2 = false) (hdd : parseFieldDescriptor (T k).2.2.1 = some .boolean) (hd : decode cc pc = .ok (.putfield index, 3)) : jSA Γ Q pc (o_putz ci k) 3 := by
  obtain ⟨p, l, e, R, s, m, args, below, meth, c, nL, cl, D, cid, A, ad0, k0, Qf⟩ := Γ
  obtain ⟨hx, hb, hml, hown, hr, hnm, hts, hlocks, hK, hA, hZ, hfr, hlo, hmc, hms, hXt⟩ := C
  intro J nx hJ hn L st K h ce sl ho
  unfold o_putz at ho
  split at ho
  · rename_i x a r
    obtain ⟨hx01, hg, ho⟩ := ho
    obtain ⟨fs, e1, e2⟩ := jgf_eq hg
    intro hk ad H locs ls h1 h2 h3 h4 h5
    refine va_put hx hb hts hin ty0 hty hnm2 hown hK h2 h3 h4 a (jw_at e1) hc k hk2 (hts _ hlink) (fun _ q => q) hfin hdd (by rcases hx01 with rfl | rfl <;> rfl) (by rcases hx01 with rfl | rfl <;> rfl) (List.getElem?_eq_some_iff.mp (jfs_at (ad := ad) (r := h a) e2)).1 hd (fun H1 locs1 g1 g2 g3 => ?_)
    have e3 : jw cid ad K (up2 h a k x) = (jw cid ad K h).set a (ad a, .inr (ci, (jfs ad (h a) fs).set k (.int x))) := by
      unfold up2
      rw [jw_upr e1, ← jfs_upd e2]; rfl
    exact hn _ _ _ _ _ _ ho hk ad H1 locs1 ls h1 (by rw [e3]; exact g1) (by rw [e3]; exact g2) g3 h5
  · exact ho.elim
/-- a row of ints (kind 0), of booleans (kind 1): its length -/
def jln (K : List jK) (a ti : Nat) : Option Nat := match K[a]? with
  | some (.inr (.inl (t2, n))) => if t2 = ti then some n else none
  | _ => none
theorem jln_eq {K : List jK} {a ti n : Nat} (h : jln K a ti = some n) : K[a]? = some (.inr (.inl (ti, n))) := by
  unfold jln at h
  split at h
  · rename_i t2 m hk
    split at h
    · rename_i hc
      subst hc
      cases h
      exact hk
    · cases h
  · cases h
def o_iald : jO := fun _ _ nx L st K h ce sl => match st with
  | .int i :: .ref a :: r => match jln K a 0 with
    | some n => vp_in i n ∧ nx L (.int (h a i.toNatClampNeg) :: r) K h ce sl
    | none => False
  | _ => False
theorem so_iald {Γ : jΓ} {Q : jPost} {cc : ByteArray} {own nm : String} {rt : Option FieldType} {ws : List Cond} {fr lo mc ms : Nat} (C : jC Γ cc own nm rt ws fr lo mc ms) {pc : Nat} (hd : decode cc pc = .ok (.iaload, 1)) : jSA Γ Q pc o_iald 1 := by
  obtain ⟨p, l, e, R, s, m, args, below, meth, c, nL, cl, D, cid, A, ad0, k0, Qf⟩ := Γ
  obtain ⟨hx, hb, hml, hown, hr, hnm, hts, hlocks, hK, hA, hZ, hfr, hlo, hmc, hms, hXt⟩ := C
  intro J nx hJ hn L st K h ce sl ho
  unfold o_iald at ho
  split at ho
  · rename_i i a r
    split at ho
    · rename_i n hf
      have e1 := jln_eq hf
      intro hk ad H locs ls h1 h2 h3 h4 h5
      exact va_iald hx hb hK h2 a 0 (jw_at e1) rfl ho.1 hd (hn _ _ _ _ _ _ ho.2 hk ad H locs ls h1 h2 h3 h4 h5)
    · exact ho.elim
  · exact ho.elim
def o_zald : jO := fun _ _ nx L st K h ce sl => match st with
  | .int i :: .ref a :: r => match jln K a 1 with
    | some n => vp_in i n ∧ nx L (.int (h a i.toNatClampNeg) :: r) K h ce sl
    | none => False
  | _ => False
def o_iast : jO := fun _ _ nx L st K h ce sl => match st with
  | .int x :: .int i :: .ref a :: r => match jln K a 0 with
    | some n => vp_in i n ∧ nx L r K (up2 h a i.toNatClampNeg x) ce sl
    | none => False
  | _ => False
theorem so_iast {Γ : jΓ} {Q : jPost} {cc : ByteArray} {own nm : String} {rt : Option FieldType} {ws : List Cond} {fr lo mc ms : Nat} (C : jC Γ cc own nm rt ws fr lo mc ms) {pc : Nat} (hd : decode cc pc = .ok (.iastore, 1)) : jSA Γ Q pc o_iast 1 := by
  obtain ⟨p, l, e, R, s, m, args, below, meth, c, nL, cl, D, cid, A, ad0, k0, Qf⟩ := Γ
  obtain ⟨hx, hb, hml, hown, hr, hnm, hts, hlocks, hK, hA, hZ, hfr, hlo, hmc, hms, hXt⟩ := C
  intro J nx hJ hn L st K h ce sl ho
  unfold o_iast at ho
  split at ho
  · rename_i x i a r
    split at ho
    · rename_i n hf
      have e1 := jln_eq hf
      intro hk ad H locs ls h1 h2 h3 h4 h5
      refine va_iast hx hb hK h2 h3 h4 a 0 (jw_at e1) rfl ho.1 hd (fun H1 locs1 g1 g2 g3 => ?_)
      have e3 : jw cid ad K (up2 h a i.toNatClampNeg x) = (jw cid ad K h).set a (ad a, .inl (cid 0, n, .inl (upd (h a) i.toNatClampNeg x))) := jw_upr e1 _
      exact hn _ _ _ _ _ _ ho.2 hk ad H1 locs1 ls h1 (by rw [e3]; exact g1) (by rw [e3]; exact g2) g3 h5
    · exact ho.elim
  · exact ho.elim
def o_zast : jO := fun _ _ nx L st K h ce sl => match st with
  | .int x :: .int i :: .ref a :: r => match jln K a 1 with
    | some n => (x = 0 ∨ x = 1) ∧ vp_in i n ∧ nx L r K (up2 h a i.toNatClampNeg x) ce sl
    | none => False
  | _ => False
/-- a row of references: of kind ti, what it holds -/
def jlr (K : List jK) (a ti : Nat) : Option (List (Option Nat)) := match K[a]? with
  | some (.inr (.inr (t2, ts))) => if t2 = ti then some ts else none
  | _ => none
theorem jlr_eq {K : List jK} {a ti : Nat} {ts : List (Option Nat)} (h : jlr K a ti = some ts) : K[a]? = some (.inr (.inr (ti, ts))) := by
  unfold jlr at h
  split at h
  · rename_i t2 m hk
    split at h
    · rename_i hc
      subst hc
      cases h
      exact hk
    · cases h
  · cases h
def jov (o : Option Nat) : Value := match o with
  | none => .null
  | some t => .ref t
theorem jov_v (ad : Nat → Nat) (o : Option Nat) : jv ad (jov o) = va_rf (o.map ad) := by cases o <;> rfl
def o_aald (ti : Nat) : jO := fun _ _ nx L st K h ce sl => match st with
  | .int i :: .ref a :: r => match jlr K a ti with
    | some ts => vp_in i ts.length ∧ nx L (jov (ts[i.toNatClampNeg]?.join) :: r) K h ce sl
    | none => False
  | _ => False
theorem so_aald2 {Γ : jΓ} {Q : jPost} {cc : ByteArray} {own nm : String} {rt : Option FieldType} {ws : List Cond} {fr lo mc ms : Nat} (C : jC Γ cc own nm rt ws fr lo mc ms) {pc : Nat} (hd : decode cc pc = .ok (.aaload, 1)) : jSA Γ Q pc (o_aald 2) 1 := by
  obtain ⟨p, l, e, R, s, m, args, below, meth, c, nL, cl, D, cid, A, ad0, k0, Qf⟩ := Γ
  obtain ⟨hx, hb, hml, hown, hr, hnm, hts, hlocks, hK, hA, hZ, hfr, hlo, hmc, hms, hXt⟩ := C
  intro J nx hJ hn L st K h ce sl ho
  unfold o_aald at ho
  split at ho
  · rename_i i a r
    split at ho
    · rename_i ts hf
      have e1 := jlr_eq hf
      intro hk ad H locs ls h1 h2 h3 h4 h5
      refine va_aldq hx hb hK h2 a 2 (jw_at e1) rfl ho.1 hd ?_
      have := hn _ _ _ _ _ _ ho.2 hk ad H locs ls h1 h2 h3 h4 h5
      rw [List.map_cons, jov_v] at this
      exact this
    · exact ho.elim
  · exact ho.elim
theorem so_aald3 {Γ : jΓ} {Q : jPost} {cc : ByteArray} {own nm : String} {rt : Option FieldType} {ws : List Cond} {fr lo mc ms : Nat} (C : jC Γ cc own nm rt ws fr lo mc ms) {pc : Nat} (hd : decode cc pc = .ok (.aaload, 1)) : jSA Γ Q pc (o_aald 3) 1 := by
  obtain ⟨p, l, e, R, s, m, args, below, meth, c, nL, cl, D, cid, A, ad0, k0, Qf⟩ := Γ
  obtain ⟨hx, hb, hml, hown, hr, hnm, hts, hlocks, hK, hA, hZ, hfr, hlo, hmc, hms, hXt⟩ := C
  intro J nx hJ hn L st K h ce sl ho
  unfold o_aald at ho
  split at ho
  · rename_i i a r
    split at ho
    · rename_i ts hf
      have e1 := jlr_eq hf
      intro hk ad H locs ls h1 h2 h3 h4 h5
      refine va_aldq hx hb hK h2 a 3 (jw_at e1) rfl ho.1 hd ?_
      have := hn _ _ _ _ _ _ ho.2 hk ad H locs ls h1 h2 h3 h4 h5
      rw [List.map_cons, jov_v] at this
      exact this
    · exact ho.elim
  · exact ho.elim
theorem so_aald4 {Γ : jΓ} {Q : jPost} {cc : ByteArray} {own nm : String} {rt : Option FieldType} {ws : List Cond} {fr lo mc ms : Nat} (C : jC Γ cc own nm rt ws fr lo mc ms) {pc : Nat} (hd : decode cc pc = .ok (.aaload, 1)) : jSA Γ Q pc (o_aald 4) 1 := by
  obtain ⟨p, l, e, R, s, m, args, below, meth, c, nL, cl, D, cid, A, ad0, k0, Qf⟩ := Γ
  obtain ⟨hx, hb, hml, hown, hr, hnm, hts, hlocks, hK, hA, hZ, hfr, hlo, hmc, hms, hXt⟩ := C
  intro J nx hJ hn L st K h ce sl ho
  unfold o_aald at ho
  split at ho
  · rename_i i a r
    split at ho
    · rename_i ts hf
      have e1 := jlr_eq hf
      intro hk ad H locs ls h1 h2 h3 h4 h5
      have hlt : i.toNatClampNeg < ts.length := Nat.not_le.mp fun q => ho.1 (Or.inr q)
      have hat := h2 a _ (jw_at e1)
      refine W.aald (v := va_rf ((ts[i.toNatClampNeg]?.join).map ad)) (ty := .array .int) hx hb hat ((hK.2 4 _ rfl).1 ts.length (fun j => va_rf ((ts[j]?.join).map ad))) rfl (fun q => by cases q) (by show ¬ (i < 0 ∨ (arrV _ _ _).slots.size ≤ _); rw [arrV_size]; exact ho.1) (by show (arrV _ _ _).slots[_]? = _; rw [arrV_read _ _ hlt]) rfl rfl hd ?_
      have := hn _ _ _ _ _ _ ho.2 hk ad H locs ls h1 h2 h3 h4 h5
      rw [List.map_cons, jov_v] at this
      exact this
    · exact ho.elim
  · exact ho.elim
def o_alen (ti : Nat) : jO := fun _ _ nx L st K h ce sl => match st with
  | .ref a :: r => match jln K a ti with
    | some n => nx L (.int (Int32.ofNat n) :: r) K h ce sl
    | none => False
  | _ => False
theorem so_alen0 {Γ : jΓ} {Q : jPost} {cc : ByteArray} {own nm : String} {rt : Option FieldType} {ws : List Cond} {fr lo mc ms : Nat} (C : jC Γ cc own nm rt ws fr lo mc ms) {pc : Nat} (hd : decode cc pc = .ok (.arraylength, 1)) : jSA Γ Q pc (o_alen 0) 1 := by
  obtain ⟨p, l, e, R, s, m, args, below, meth, c, nL, cl, D, cid, A, ad0, k0, Qf⟩ := Γ
  obtain ⟨hx, hb, hml, hown, hr, hnm, hts, hlocks, hK, hA, hZ, hfr, hlo, hmc, hms, hXt⟩ := C
  intro J nx hJ hn L st K h ce sl ho
  unfold o_alen at ho
  split at ho
  · rename_i a r
    split at ho
    · rename_i n hf
      have e1 := jln_eq hf
      intro hk ad H locs ls h1 h2 h3 h4 h5
      exact va_alen hx hb hK h2 a 0 (jw_at e1) rfl rfl hd (hn _ _ _ _ _ _ ho hk ad H locs ls h1 h2 h3 h4 h5)
    · exact ho.elim
  · exact ho.elim
/-- the constant rows -/
def o_gets (j : Nat) : jO := fun _ _ nx L st K h ce sl => j < 4 ∧ nx L (.ref (1000 + j) :: st) K h ce sl
theorem so_gets {Γ : jΓ} {Q : jPost} {cc : ByteArray} {own nm : String} {rt : Option FieldType} {ws : List Cond} {fr lo mc ms : Nat} (C : jC Γ cc own nm rt ws fr lo mc ms) {pc : Nat} {index j : Nat} (hlink : (own, index, j) ∈ jnf) (hd : decode cc pc = .ok (.getstatic index, 3)) : jSA Γ Q pc (o_gets j) 3 := by
  obtain ⟨p, l, e, R, s, m, args, below, meth, c, nL, cl, D, cid, A, ad0, k0, Qf⟩ := Γ
  obtain ⟨hx, hb, hml, hown, hr, hnm, hts, hlocks, hK, hA, hZ, hfr, hlo, hmc, hms, hXt⟩ := C
  intro J nx hJ hn L st K h ce sl ho
  obtain ⟨hj, ho⟩ := ho
  intro hk ad H locs ls h1 h2 h3 h4 h5
  have hlen := hk.2.1
  refine va_getsN hx hb (hZ j hj).1 h4 hown (va_Nw.use rfl (hXt.2.1 _ hlink)) (fun _ q => q) hd ?_
  have := hn _ _ _ _ _ _ ho hk ad H locs ls h1 h2 h3 h4 h5
  rw [List.map_cons] at this
  rw [← h1 (1000 + j) (Or.inr (by omega))]
  exact this
def o_zld (j : Nat) : jO := fun _ _ nx L st K h ce sl => match st with
  | .int i :: .ref a :: r => j < 4 ∧ a = 1000 + j ∧ vp_in i (jzc j).length ∧ nx L (.int (jzr j i.toNatClampNeg) :: r) K h ce sl
  | _ => False
theorem so_zld {Γ : jΓ} {Q : jPost} {cc : ByteArray} {own nm : String} {rt : Option FieldType} {ws : List Cond} {fr lo mc ms : Nat} (C : jC Γ cc own nm rt ws fr lo mc ms) {pc : Nat} {j : Nat} (hd : decode cc pc = .ok (.iaload, 1)) : jSA Γ Q pc (o_zld j) 1 := by
  obtain ⟨p, l, e, R, s, m, args, below, meth, c, nL, cl, D, cid, A, ad0, k0, Qf⟩ := Γ
  obtain ⟨hx, hb, hml, hown, hr, hnm, hts, hlocks, hK, hA, hZ, hfr, hlo, hmc, hms, hXt⟩ := C
  intro J nx hJ hn L st K h ce sl ho
  unfold o_zld at ho
  split at ho
  · rename_i i a r
    obtain ⟨hj, rfl, hin, ho⟩ := ho
    intro hk ad H locs ls h1 h2 h3 h4 h5
    have hlen := hk.2.1
    have hT := (hZ j hj).2
    rw [← h1 (1000 + j) (Or.inr (by omega))] at hT
    exact va_ti hx hb hT h4 hin rfl hd (hn _ _ _ _ _ _ ho hk ad H locs ls h1 h2 h3 h4 h5)
  · exact ho.elim
def o_zlen (j : Nat) : jO := fun _ _ nx L st K h ce sl => match st with
  | .ref a :: r => j < 4 ∧ a = 1000 + j ∧ nx L (.int (Int32.ofNat (jzc j).length) :: r) K h ce sl
  | _ => False
theorem so_zlen {Γ : jΓ} {Q : jPost} {cc : ByteArray} {own nm : String} {rt : Option FieldType} {ws : List Cond} {fr lo mc ms : Nat} (C : jC Γ cc own nm rt ws fr lo mc ms) {pc : Nat} {j : Nat} (hd : decode cc pc = .ok (.arraylength, 1)) : jSA Γ Q pc (o_zlen j) 1 := by
  obtain ⟨p, l, e, R, s, m, args, below, meth, c, nL, cl, D, cid, A, ad0, k0, Qf⟩ := Γ
  obtain ⟨hx, hb, hml, hown, hr, hnm, hts, hlocks, hK, hA, hZ, hfr, hlo, hmc, hms, hXt⟩ := C
  intro J nx hJ hn L st K h ce sl ho
  unfold o_zlen at ho
  split at ho
  · rename_i a r
    obtain ⟨hj, rfl, ho⟩ := ho
    intro hk ad H locs ls h1 h2 h3 h4 h5
    have hlen := hk.2.1
    have hT := (hZ j hj).2
    rw [← h1 (1000 + j) (Or.inr (by omega))] at hT
    exact va_tlen hx hb hT h4 rfl hd (hn _ _ _ _ _ _ ho hk ad H locs ls h1 h2 h3 h4 h5)
  · exact ho.elim
/-- System.arraycopy of ints -/
def o_cpy : jO := fun _ _ nx L st K h ce sl => match st with
  | .int n :: .int dp :: .ref b :: .int sp :: .ref a :: r => match jln K a 0, jln K b 0 with
    | some n0, some n1 => ¬ sp < 0 ∧ ¬ dp < 0 ∧ ¬ n < 0 ∧ sp.toNatClampNeg + n.toNatClampNeg ≤ n0 ∧ dp.toNatClampNeg + n.toNatClampNeg ≤ n1 ∧ (r.map fun v => v.category).sum = 0 ∧ nx L r K (upr h b (va_cpy (h a) (h b) sp.toNatClampNeg dp.toNatClampNeg n.toNatClampNeg)) ce sl
    | _, _ => False
  | _ => False
theorem so_cpy {Γ : jΓ} {Q : jPost} {cc : ByteArray} {own nm : String} {rt : Option FieldType} {ws : List Cond} {fr lo mc ms : Nat} (C : jC Γ cc own nm rt ws fr lo mc ms) {pc : Nat} {index : Nat} (w1 : Cond.methodLink own index arraycopyName ∈ ws) (w2 : Cond.native arraycopyName ∈ ws) (w3 : Cond.static arraycopyName ∈ ws) (w4 : Cond.initialized "java/lang/System" ∈ ws) (hf1 : 1 ≤ fr) (hf2 : nativeFrameWords "java/lang/System" "arraycopy" 5 + 11 ≤ lo) (hd : decode cc pc = .ok (.invokestatic index, 3)) : jSA Γ Q pc o_cpy 3 := by
  obtain ⟨p, l, e, R, s, m, args, below, meth, c, nL, cl, D, cid, A, ad0, k0, Qf⟩ := Γ
  obtain ⟨hx, hb, hml, hown, hr, hnm, hts, hlocks, hK, hA, hZ, hfr, hlo, hmc, hms, hXt⟩ := C
  intro J nx hJ hn L st K h ce sl ho
  unfold o_cpy at ho
  split at ho
  · rename_i n dp b sp a r
    split at ho
    · rename_i n0 n1 hf0 hf3
      have e0 := jln_eq hf0
      have e1 := jln_eq hf3
      obtain ⟨g1, g2, g3, g4, g5, g6, ho⟩ := ho
      intro hk ad H locs ls h1 h2 h3 h4 h5
      have g6' : ((r.map (jv ad)).map fun v => v.category).sum = 0 := by
        rw [List.map_map, show ((fun v => v.category) ∘ jv ad) = (fun v : Value => v.category) from funext (fun v => jv_cat ad v)]
        exact g6
      refine va_copyi hx hb (by rw [hml]; exact h5.1.symm) hown (hts _ w1) (hts _ w2) (hts _ w3) (hts _ w4) hK h2 h3 h4 a b 0 0 (jw_at e0) (jw_at e1) rfl rfl rfl g1 g2 g3 g4 g5 (fun i hi => rfl) (by rw [hfr]; exact hf1) (by rw [hlo, g6']; omega) hd (fun H1 locs1 q1 q2 q3 => ?_)
      have e3 : jw cid ad K (upr h b (va_cpy (h a) (h b) sp.toNatClampNeg dp.toNatClampNeg n.toNatClampNeg)) = (jw cid ad K h).set b (ad b, .inl (cid 0, n1, .inl (va_cpy (h a) (h b) sp.toNatClampNeg dp.toNatClampNeg n.toNatClampNeg))) := jw_upr e1 _
      exact hn _ _ _ _ _ _ ho hk ad H1 locs1 ls h1 (by rw [e3]; exact q1) (by rw [e3]; exact q2) q3 h5
    · exact ho.elim
  · exact ho.elim
