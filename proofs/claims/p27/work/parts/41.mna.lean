/-! ===== new int[4][12]: the state after i inner rows, and the step ===== -/
def jmO (cA : ClassId) (z i : Nat) : Cell := arrV cA 4 (fun j => if j < i then .ref (z + 1 + j) else .null)
def jmI (cB : ClassId) : Cell := arrV cB 12 (fun _ => .int 0)
theorem jmO_set (cA : ClassId) (z i : Nat) : (jmO cA z i).setSlot i (.ref (z + 1 + i)) = jmO cA z (i + 1) := by
  unfold jmO
  rw [arrV_store]
  congr 1
  funext j
  unfold updV
  by_cases e : j = i
  · subst e
    rw [if_pos rfl, if_pos (by omega)]
  · rw [if_neg e]
    show (if j < i then Value.ref (z + 1 + j) else Value.null) = _
    by_cases h : j < i
    · rw [if_pos h, if_pos (by omega)]
    · rw [if_neg h, if_neg (by omega)]
def jmS (U : State) (cA cB : ClassId) : Nat → State
  | 0 => U.pushCell (jmO cA U.heap.size 0)
  | i + 1 => ((jmS U cA cB i).pushCell (jmI cB)).setCell U.heap.size ((jmO cA U.heap.size i).setSlot i (.ref (U.heap.size + 1 + i)))
theorem jmS_f (U : State) (cA cB : ClassId) : ∀ i, (jmS U cA cB i).heap.size = U.heap.size + 1 + i ∧ (jmS U cA cB i).heap[U.heap.size]? = some (jmO cA U.heap.size i) ∧ (jmS U cA cB i).vm = U.vm ∧ (jmS U cA cB i).slotsUsed = U.slotsUsed + 4 + i * 12 ∧ (∀ q : Nat, q < U.heap.size → (jmS U cA cB i).heap[q]? = U.heap[q]?) ∧ ∀ j : Nat, j < i → (jmS U cA cB i).heap[U.heap.size + 1 + j]? = some (jmI cB)
  | 0 => by
    refine ⟨by simp [jmS], by simp [jmS], rfl, ?_, fun q hq => State.heap_pushCell_of_lt _ _ hq, fun j hj => by omega⟩
    show U.slotsUsed + (jmO cA U.heap.size 0).slots.size = _
    unfold jmO
    rw [arrV_size]
  | i + 1 => by
    obtain ⟨a, b, d, u, o, r⟩ := jmS_f U cA cB i
    have hlt : U.heap.size < (jmS U cA cB i).heap.size := by omega
    have hb' : ((jmS U cA cB i).pushCell (jmI cB)).heap[U.heap.size]? = some (jmO cA U.heap.size i) := by rw [State.heap_pushCell_of_lt (h := hlt)]; exact b
    refine ⟨?_, ?_, ?_, ?_, fun q hq => ?_, fun j hj => ?_⟩
    · show (((jmS U cA cB i).pushCell (jmI cB)).setCell _ _).heap.size = _
      simp [State.setCell, a]; omega
    · rw [← jmO_set]
      exact State.heap_setCell_self hb'
    · exact d
    · show (jmS U cA cB i).slotsUsed + (jmI cB).slots.size = _
      unfold jmI
      rw [arrV_size, u]
      omega
    · show (((jmS U cA cB i).pushCell (jmI cB)).setCell U.heap.size _).heap[q]? = _
      have hl : q < (jmS U cA cB i).heap.size := by rw [a]; omega
      rw [State.heap_setCell_other (Nat.ne_of_gt hq), State.heap_pushCell_of_lt (h := hl)]
      exact o q hq
    · show (((jmS U cA cB i).pushCell (jmI cB)).setCell U.heap.size _).heap[U.heap.size + 1 + j]? = _
      rw [State.heap_setCell_other (show U.heap.size ≠ U.heap.size + 1 + j by omega)]
      by_cases e : j = i
      · subst e
        rw [← a]
        exact State.heap_pushCell_size _ _
      · have hl : U.heap.size + 1 + j < (jmS U cA cB i).heap.size := by rw [a]; omega
        rw [State.heap_pushCell_of_lt (h := hl)]
        exact r j (by omega)
theorem jmS_top (U : State) (f : JFrame) (cA cB : ClassId) : ∀ i, jmS (U.setTop f) cA cB i = (jmS U cA cB i).setTop f
  | 0 => rfl
  | i + 1 => by simp only [jmS, jmS_top U f cA cB i, State.heap_setTop, State.pushCell_setTop, State.setCell_setTop]
section JMW
variable {E : CtlPost} {e : Env} {d : Bool} {acts : List Action} {U : State}
theorem jm_row {cB cc : ClassId} {kB : Class} (hk : U.vm.classes[cB]? = some kB) (hkind : kB.kind = .array cc .int) (l1 : ¬ 12 > e.platform.arrayLengthLimit) (h1 : ¬ 12 * componentBytes .int > e.platform.maxHeapBytes) (hc : U.heap.size < e.platform.maxCells) (hs : U.slotsUsed + 12 ≤ e.platform.maxSlots) {Q : Addr → Pre} (hq : ∀ acts', Q U.heap.size d acts' (U.pushCell (jmI cB))) : wp (multianewarray.make cB [12]) Q E e d acts U := by
  have n0 : ¬ (12 : Int32) < 0 := by decide
  have e12 : (12 : Int32).toNatClampNeg = 12 := by decide
  rw [multianewarray.make]
  simp only [wp_bind', W.ite, n0, if_false, wp_pure', W.theClass, hk, hkind, Option.some.injEq, exists_eq_left', e12]
  refine W.newArray_of hk hkind l1 h1 hc hs rfl (fun acts' => ?_)
  have hq2 := hq acts'
  unfold jmI at hq2
  rw [← arrV_new] at hq2
  exact hq2
theorem jm_wp {cA cB cc : ClassId} {kA kB : Class} (hk : U.vm.classes[cA]? = some kA) (hkind : kA.kind = .array cB (.array .int)) (hkB : U.vm.classes[cB]? = some kB) (hkindB : kB.kind = .array cc .int) (l1 : ¬ 12 > e.platform.arrayLengthLimit) (h1 : ¬ 12 * componentBytes .int > e.platform.maxHeapBytes) (hc : U.heap.size + 5 ≤ e.platform.maxCells) (hs : U.slotsUsed + 52 ≤ e.platform.maxSlots) {Q : Addr → Pre} (hq : ∀ d' acts', Q U.heap.size d' acts' (jmS U cA cB 4)) : wp (multianewarray.make cA [4, 12]) Q E e d acts U := by
  have n0 : ¬ (4 : Int32) < 0 := by decide
  have e4 : (4 : Int32).toNatClampNeg = 4 := by decide
  have z4 : ((4 : Int32) == 0) = false := by decide
  rw [multianewarray.make]
  simp only [wp_bind', W.ite, n0, if_false, wp_pure', W.theClass, hk, hkind, Option.some.injEq, exists_eq_left', e4]
  refine W.newArray_of hk hkind (by omega) (by show ¬ 4 * 4 > _; have : (12 * componentBytes .int) = 48 := rfl; omega) (by omega) (by omega) rfl (fun acts' => ?_)
  simp only [z4, Bool.false_eq_true, if_false, wp_pure']
  have e0 : (U.pushCell { cls := cA, slots := Array.replicate 4 .null }) = jmS U cA cB 0 := by
    show _ = U.pushCell (jmO cA U.heap.size 0)
    have : jmO cA U.heap.size 0 = arrV cA 4 (fun _ => .null) := by
      unfold jmO
      congr 1
    rw [this, ← arrV_new]
  rw [e0, wp_bind', Std.Legacy.Range.forIn_eq_forIn_range']
  show wp (forIn (List.range' 0 4 1) PUnit.unit _) _ E e d acts' _
  refine wp_forIn_inv (fun rest s' => ∃ i, i ≤ 4 ∧ rest = List.range' i (4 - i) ∧ s' = jmS U cA cB i) _ _ ⟨0, by omega, rfl, rfl⟩ ?_ ?_
  · rintro x rest s' d' acts2 Q' ⟨i, hi, hl, rfl⟩ hnext
    have hlt : i < 4 := by
      rcases Nat.lt_or_ge i 4 with h | h
      · exact h
      · rw [show 4 - i = 0 from by omega] at hl; simp at hl
    obtain ⟨rfl, hrest⟩ : x = i ∧ rest = List.range' (i + 1) (4 - (i + 1)) := by
      rw [show 4 - i = (4 - (i + 1)) + 1 from by omega, List.range'_succ] at hl
      exact ⟨(List.cons.inj hl).1, (List.cons.inj hl).2⟩
    obtain ⟨f1, f2, f3, f4, -, -⟩ := jmS_f U cA cB x
    simp only [wp_bind']
    refine jm_row (by rw [f3]; exact hkB) hkindB l1 h1 (by rw [f1]; omega) (by rw [f4]; omega) (fun acts3 => ?_)
    have hlt0 : U.heap.size < (jmS U cA cB x).heap.size := by rw [f1]; omega
    simp only [wp_bind', W.writeLoc, wp_pure']
    refine ⟨jmO cA U.heap.size x, by rw [State.heap_pushCell_of_lt (h := hlt0)]; exact f2, fun q => (by cases q), by show x < (arrV _ _ _).slots.size; rw [arrV_size]; exact hlt, ?_, hnext _ _ _ ⟨x + 1, hlt, hrest, ?_⟩⟩
    · show ((jmS U cA cB x).pushCell (jmI cB)).fitsSlot cA .none x _ = true
      simp [State.fitsSlot, State.slotType?, f3, hk, hkind, fits]
    · rw [f1]; rfl
  · rintro s' d' acts2 ⟨i, hi, hl, rfl⟩
    have hi4 : i = 4 := by
      rcases Nat.lt_or_ge i 4 with h | h
      · rw [show 4 - i = (4 - (i + 1)) + 1 from by omega, List.range'_succ] at hl; cases hl
      · omega
    subst hi4
    first | exact hq _ _ | (simp only [wp_pure']; exact hq _ _)
end JMW
section JMN
variable {p : Program} {l : Launch} {e : Env} {R : Room} {s : State} {m : MethodId} {args : Array Value} {below : List Frame} {meth : Method} {c : Code} {T : State} {H : Heap} {locs : List Loc} {cells slots : Nat} {Q : State → Prop}
theorem jm_stand (X : Stand p l e R s m args below meth c T locs cells slots) (cA cB : ClassId) : ∀ i, ∃ J : List Loc, (∀ x ∈ J, x.base = T.heap.size) ∧ Stand p l e R s m args below meth c (jmS T cA cB i) (locs ++ J) (cells + 1 + i) (slots + 4 + i * 12)
  | 0 => by
    have h := X.pushed (jmO cA T.heap.size 0)
    have e : (jmO cA T.heap.size 0).slots.size = 4 := by unfold jmO; rw [arrV_size]
    rw [e] at h
    exact ⟨[], (by simp), by simpa [jmS] using h⟩
  | i + 1 => by
    obtain ⟨J, hJ, Xi⟩ := jm_stand X cA cB i
    obtain ⟨f1, f2, -⟩ := jmS_f T cA cB i
    have hlt0 : T.heap.size < (jmS T cA cB i).heap.size := by rw [f1]; omega
    have hcell : ((jmS T cA cB i).pushCell (jmI cB)).heap[T.heap.size]? = some (jmO cA T.heap.size i) := by rw [State.heap_pushCell_of_lt (h := hlt0)]; exact f2
    have h := (Xi.pushed (jmI cB)).stored hcell i (.ref (T.heap.size + 1 + i))
    have e1 : (jmI cB).slots.size = 12 := by unfold jmI; rw [arrV_size]
    rw [e1] at h
    refine ⟨J ++ [⟨T.heap.size, i⟩], fun x hx => ?_, ?_⟩
    · rcases List.mem_append.mp hx with h9 | h9
      · exact hJ x h9
      · rw [List.mem_singleton.mp h9]
    · rw [← List.append_assoc]
      have e3 : slots + 4 + (i + 1) * 12 = slots + 4 + i * 12 + 12 := by omega
      rw [e3]
      exact h
theorem j_mna {cc : ByteArray} {pc : Nat} {ls : Array Slot} {rest : List Value} (hexec : p.tables.exec = Jvm.exec) (hb : c.code = cc) {own : String} {index : Nat} (hown : s.vm.findClass own = some m.cls) (hclink : (Cond.classLink own index "[[I").before args s = true) (hover : (Cond.arrayOver (.array .int)).before #[] s = true) (harr : (Cond.arrayClass .int).before args s = true) (hcells : cells + 5 ≤ R.cells) (hslots : slots + 52 ≤ R.slots) (hdg : decode cc pc = .ok (.multianewarray index 2, 4))
    (kk : ∀ (H1 : Heap) (cA cB : ClassId), s.vm.findClass "[[I" = some cA → s.vm.findClass "[I" = some cB → H1.size = H.size + 5 → (∀ q : Nat, q < H.size → H1[q]? = H[q]?) → H1[H.size]? = some (jmO cA H.size 4) → (∀ j : Nat, j < 4 → H1[H.size + 1 + j]? = some (jmI cB)) → W p l e R s m args below meth c H1 locs (cells + 5) (slots + 52) Q (F0 m (pc + 4) ls (.ref H.size :: rest))) : W p l e R s m args below meth c H locs cells slots Q (F0 m pc ls (.int 12 :: .int 4 :: rest)) := by
  intro T hT X
  subst hT
  subst hb
  have hpl : e.platform.magicAccessors = ({} : Platform).magicAccessors := by rw [X.admits.platform]
  obtain ⟨cB, cA, kA, hcomp, -, hkA, hkindA, hnameA⟩ := arrayOverA_spec hover
  obtain ⟨cB2, kB, cc, hcomp2, hkB, hkindB⟩ := Cond.arrayClass_spec harr
  have ec : cB2 = cB := Option.some.inj (hcomp2.symm.trans hcomp)
  subst ec
  obtain ⟨c0, hfc0, hcl⟩ := Cond.classLink_spec hown hclink e.platform hpl
  have ec0 : c0 = cA := Option.some.inj (hfc0.symm.trans hnameA)
  subst ec0
  obtain ⟨hg₁, hwarm₁, hready₁⟩ := State.classEntry (e := e) X.warmed hcl
  generalize T.vm.noted m.cls index (.cls c0) = vm₁ at hg₁ hwarm₁ hready₁
  obtain ⟨kA₁, hkA₁, heA⟩ := hwarm₁.alike.2.2 _ _ hkA
  obtain ⟨kB₁, hkB₁, heB⟩ := hwarm₁.alike.2.2 _ _ hkB
  have hkindA₁ : kA₁.kind = .array cB2 (.array .int) := by rw [heA]; exact hkindA
  have hkindB₁ : kB₁.kind = .array cc .int := by rw [heB]; exact hkindB
  have X₁ := X.noted hwarm₁
  obtain ⟨hr1, hr2⟩ := X.roomAbove hcells hslots
  have hl1 : ¬ 12 > e.platform.arrayLengthLimit := by rw [Launch.admits_arrayLengthLimit X.admits]; omega
  have hh1 : ¬ 12 * componentBytes .int > e.platform.maxHeapBytes := by
    rw [Launch.admits_maxHeapBytes X.admits]
    show ¬ 12 * 4 > _
    omega
  obtain ⟨J, hJ, XJ⟩ := jm_stand X₁ c0 cB2 4
  have XF := XJ.dropFresh (fun x hx => by
    rw [hJ x hx]
    exact X.heapGrown)
  obtain ⟨f1, f2, -, -, f5, f6⟩ := jmS_f (T.setVm vm₁) c0 cB2 4
  obtain ⟨t, a1, b1⟩ := kk (jmS (T.setVm vm₁) c0 cB2 4).heap c0 cB2 hnameA hcomp f1 f5 f2 f6 (jmS (T.setVm vm₁) c0 cB2 4) rfl XF
  refine ⟨t, ?_, b1⟩
  jvm_step X.here [hexec, hdg]
  simp only [multianewarray.sem, wp_bind', W.resolveClassAt_links (State.method?_setTop (F0 m pc ls (.int 12 :: .int 4 :: rest)) X.here.top) hg₁]
  rw [W.popN, if_neg (by decide)]
  refine ⟨F0 m pc ls (.int 12 :: .int 4 :: rest), State.topJava?_setTop' (s := T.setVm vm₁) _ X.here.top, [.int 4, .int 12], rest, rfl, rfl, ?_⟩
  simp only [List.mapM_cons, List.mapM_nil, wp_bind', wp_pure']
  refine jm_wp (cc := cc) (kA := kA₁) (kB := kB₁) (cB := cB2) ?_ hkindA₁ ?_ hkindB₁ hl1 hh1 ?_ ?_ (fun d' acts' => ?_)
  · exact hkA₁
  · exact hkB₁
  · exact hr1
  · exact hr2
  have eS : ((T.setTop (F0 m pc ls (.int 12 :: .int 4 :: rest))).setVm vm₁).setTop { F0 m pc ls (.int 12 :: .int 4 :: rest) with stack := rest } = (T.setVm vm₁).setTop { F0 m pc ls (.int 12 :: .int 4 :: rest) with stack := rest } := by
    show ((T.setVm vm₁).setTop _).setTop _ = _
    rw [State.setTop_setTop]
  rw [eS, jmS_top]
  simp only [wp_bind', W.mark, W.pushRef, State.topJava?_setTop' _ XF.here.top, Option.some.injEq, exists_eq_left', State.setTop_setTop, State.heap_setTop]
  intro acts
  simp [jvm, XF.here.top]
  exact a1
end JMN
