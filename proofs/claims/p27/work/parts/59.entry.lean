theorem law_known {s : State} {args : Array Value} (hts : ∀ w ∈ lw_tbl, w.before args s = true) : ∃ (D : va_G) (cid : Nat → ClassId), va_K D vwCl (jTy cid) s := by
  have hw : ∀ w ∈ wsL_law, w.before args s = true := fun w h => hts w (wsL_law_in w h)
  obtain ⟨c0, i0, k0⟩ := u_known (C := RX0) (T := TX0) (N := 4) (n := 4) hw inlX0 (hts (.instantiable RX0 4) (by decide +kernel))
  obtain ⟨c1, i1, k1⟩ := u_known (C := RX1) (T := TX1) (N := 4) (n := 4) hw inlX1 (hts (.instantiable RX1 4) (by decide +kernel))
  obtain ⟨c2, i2, k2⟩ := u_known (C := RX2) (T := TX2) (N := 7) (n := 7) hw inlX2 (hts (.instantiable RX2 7) (by decide +kernel))
  obtain ⟨c3, i3, k3⟩ := u_known (C := RX3) (T := TX3) (N := 5) (n := 5) hw inlX3 (hts (.instantiable RX3 5) (by decide +kernel))
  obtain ⟨c4, i4, k4⟩ := u_known (C := RX4) (T := TX4) (N := 3) (n := 3) hw inlX4 (hts (.instantiable RX4 3) (by decide +kernel))
  obtain ⟨c5, i5, k5⟩ := u_known (C := RX5) (T := TX5) (N := 3) (n := 3) hw inlX5 (hts (.instantiable RX5 3) (by decide +kernel))
  obtain ⟨c6, i6, k6⟩ := u_known (C := RX6) (T := TX6) (N := 9) (n := 9) hw inlX6 (hts (.instantiable RX6 9) (by decide +kernel))
  obtain ⟨a0, ka0, ca0, f0, g0, e0⟩ := Cond.arrayClass_spec (hts (.arrayClass .int) (by decide +kernel))
  obtain ⟨ca2, a2, ka2, b2, -, g2, e2, f2⟩ := Cond.arrayOver_spec (hts (.arrayOver (.object "AntFloor$Ant")) (by decide +kernel))
  obtain ⟨ca3, a3, ka3, b3, -, g3, e3, f3⟩ := Cond.arrayOver_spec (hts (.arrayOver (.object "AntFloor$Sheet")) (by decide +kernel))
  obtain ⟨ca4, a4, ka4, b4, -, g4, e4, f4⟩ := arrayOverA_spec (hts (.arrayOver (.array .int)) (by decide +kernel))
  let cid : Nat → ClassId := fun k => match k with
    | 0 => a0 | 1 => a0 | 2 => a2 | 3 => a3 | _ => a4
  refine ⟨(fun k => match k with | 0 => c0 | 1 => c1 | 2 => c2 | 3 => c3 | 4 => c4 | 5 => c5 | _ => c6, fun k => match k with | 0 => i0 | 1 => i1 | 2 => i2 | 3 => i3 | 4 => i4 | 5 => i5 | _ => i6), cid, ?_, ?_⟩
  · intro k q hq
    match k, hq with
    | 0, hq => cases hq; exact k0
    | 1, hq => cases hq; exact k1
    | 2, hq => cases hq; exact k2
    | 3, hq => cases hq; exact k3
    | 4, hq => cases hq; exact k4
    | 5, hq => cases hq; exact k5
    | 6, hq => cases hq; exact k6
    | k + 7, hq => cases hq
  · intro k q hq
    match k, hq with
    | 0, hq => cases hq; exact ⟨fun n z => ⟨fun k h => (by cases h), ka0, g0, ca0, e0⟩, f0⟩
    | 1, hq => cases hq; exact ⟨fun n z => ⟨fun k h => (by cases h), ka0, g0, ca0, e0⟩, f0⟩
    | 2, hq => cases hq; exact ⟨fun n z => ⟨fun k h => (by cases h), ka2, g2, ca2, e2⟩, ka2, ca2, g2, e2, b2, f2⟩
    | 3, hq => cases hq; exact ⟨fun n z => ⟨fun k h => (by cases h), ka3, g3, ca3, e3⟩, ka3, ca3, g3, e3, b3, f3⟩
    | 4, hq => cases hq; exact ⟨fun n z => ⟨fun k h => (by cases h), ka4, g4, ca4, e4⟩, f4⟩
    | k + 5, hq => cases hq
theorem law_row {s : State} {args : Array Value} {A : Nat → Prop} (hts : ∀ w ∈ lw_tbl, w.before args s = true) (hgv : (Jvm.Cond.and given_1 narrow_1).before args s = true) (hA : ∀ a, a < s.heap.size → ¬ A a) : ∀ j, j < 4 → ∃ t : Nat, va_Z "AntFloor" (jzn j) "[I" (.ref t) A s s.heap ∧ va_T .int t (jzc j).length (fun k => .int (jzr j k)) A s s.heap := by
  have hs := flat_of_before _ hgv
  have hini := hts (.initialized "AntFloor") (by decide +kernel)
  intro j hj
  match j, hj with
  | 0, _ =>
    obtain ⟨t, ht, hT⟩ := va_Tof (args := args) (s := s) (tm := (Term.static "AntFloor" "SQUARES_X" "[I")) (ty := .int) (N := 4) (f := fun k => .int (jzr 0 k)) (A := A) (by decide) (hs (Cond.arrayOf (Term.static "AntFloor" "SQUARES_X" "[I") .int) (by decide +kernel)) (va_eqt (hs (Cond.eq (.length (Term.static "AntFloor" "SQUARES_X" "[I")) (.int 4)) (by decide +kernel))) (fun q hq => by
      match q, hq with
      | 0, _ => exact va_eqt (hs (Cond.eq (.elem (Term.static "AntFloor" "SQUARES_X" "[I") (.int 0)) (.int (0))) (by decide +kernel))
      | 1, _ => exact va_eqt (hs (Cond.eq (.elem (Term.static "AntFloor" "SQUARES_X" "[I") (.int 1)) (.int (1))) (by decide +kernel))
      | 2, _ => exact va_eqt (hs (Cond.eq (.elem (Term.static "AntFloor" "SQUARES_X" "[I") (.int 2)) (.int (0))) (by decide +kernel))
      | 3, _ => exact va_eqt (hs (Cond.eq (.elem (Term.static "AntFloor" "SQUARES_X" "[I") (.int 3)) (.int (-1))) (by decide +kernel))
      | q + 4, hq => exact absurd hq (by omega)) hA
    exact ⟨t, va_Zref (hts (.laysStatic "AntFloor" "SQUARES_X" "[I") (by decide +kernel)) hini ht hA, hT⟩
  | 1, _ =>
    obtain ⟨t, ht, hT⟩ := va_Tof (args := args) (s := s) (tm := (Term.static "AntFloor" "SQUARES_Y" "[I")) (ty := .int) (N := 4) (f := fun k => .int (jzr 1 k)) (A := A) (by decide) (hs (Cond.arrayOf (Term.static "AntFloor" "SQUARES_Y" "[I") .int) (by decide +kernel)) (va_eqt (hs (Cond.eq (.length (Term.static "AntFloor" "SQUARES_Y" "[I")) (.int 4)) (by decide +kernel))) (fun q hq => by
      match q, hq with
      | 0, _ => exact va_eqt (hs (Cond.eq (.elem (Term.static "AntFloor" "SQUARES_Y" "[I") (.int 0)) (.int (1))) (by decide +kernel))
      | 1, _ => exact va_eqt (hs (Cond.eq (.elem (Term.static "AntFloor" "SQUARES_Y" "[I") (.int 1)) (.int (0))) (by decide +kernel))
      | 2, _ => exact va_eqt (hs (Cond.eq (.elem (Term.static "AntFloor" "SQUARES_Y" "[I") (.int 2)) (.int (-1))) (by decide +kernel))
      | 3, _ => exact va_eqt (hs (Cond.eq (.elem (Term.static "AntFloor" "SQUARES_Y" "[I") (.int 3)) (.int (0))) (by decide +kernel))
      | q + 4, hq => exact absurd hq (by omega)) hA
    exact ⟨t, va_Zref (hts (.laysStatic "AntFloor" "SQUARES_Y" "[I") (by decide +kernel)) hini ht hA, hT⟩
  | 2, _ =>
    obtain ⟨t, ht, hT⟩ := va_Tof (args := args) (s := s) (tm := (Term.static "AntFloor" "SIXES_X" "[I")) (ty := .int) (N := 6) (f := fun k => .int (jzr 2 k)) (A := A) (by decide) (hs (Cond.arrayOf (Term.static "AntFloor" "SIXES_X" "[I") .int) (by decide +kernel)) (va_eqt (hs (Cond.eq (.length (Term.static "AntFloor" "SIXES_X" "[I")) (.int 6)) (by decide +kernel))) (fun q hq => by
      match q, hq with
      | 0, _ => exact va_eqt (hs (Cond.eq (.elem (Term.static "AntFloor" "SIXES_X" "[I") (.int 0)) (.int (1))) (by decide +kernel))
      | 1, _ => exact va_eqt (hs (Cond.eq (.elem (Term.static "AntFloor" "SIXES_X" "[I") (.int 1)) (.int (0))) (by decide +kernel))
      | 2, _ => exact va_eqt (hs (Cond.eq (.elem (Term.static "AntFloor" "SIXES_X" "[I") (.int 2)) (.int (-1))) (by decide +kernel))
      | 3, _ => exact va_eqt (hs (Cond.eq (.elem (Term.static "AntFloor" "SIXES_X" "[I") (.int 3)) (.int (-1))) (by decide +kernel))
      | 4, _ => exact va_eqt (hs (Cond.eq (.elem (Term.static "AntFloor" "SIXES_X" "[I") (.int 4)) (.int (0))) (by decide +kernel))
      | 5, _ => exact va_eqt (hs (Cond.eq (.elem (Term.static "AntFloor" "SIXES_X" "[I") (.int 5)) (.int (1))) (by decide +kernel))
      | q + 6, hq => exact absurd hq (by omega)) hA
    exact ⟨t, va_Zref (hts (.laysStatic "AntFloor" "SIXES_X" "[I") (by decide +kernel)) hini ht hA, hT⟩
  | 3, _ =>
    obtain ⟨t, ht, hT⟩ := va_Tof (args := args) (s := s) (tm := (Term.static "AntFloor" "SIXES_Y" "[I")) (ty := .int) (N := 6) (f := fun k => .int (jzr 3 k)) (A := A) (by decide) (hs (Cond.arrayOf (Term.static "AntFloor" "SIXES_Y" "[I") .int) (by decide +kernel)) (va_eqt (hs (Cond.eq (.length (Term.static "AntFloor" "SIXES_Y" "[I")) (.int 6)) (by decide +kernel))) (fun q hq => by
      match q, hq with
      | 0, _ => exact va_eqt (hs (Cond.eq (.elem (Term.static "AntFloor" "SIXES_Y" "[I") (.int 0)) (.int (0))) (by decide +kernel))
      | 1, _ => exact va_eqt (hs (Cond.eq (.elem (Term.static "AntFloor" "SIXES_Y" "[I") (.int 1)) (.int (1))) (by decide +kernel))
      | 2, _ => exact va_eqt (hs (Cond.eq (.elem (Term.static "AntFloor" "SIXES_Y" "[I") (.int 2)) (.int (1))) (by decide +kernel))
      | 3, _ => exact va_eqt (hs (Cond.eq (.elem (Term.static "AntFloor" "SIXES_Y" "[I") (.int 3)) (.int (0))) (by decide +kernel))
      | 4, _ => exact va_eqt (hs (Cond.eq (.elem (Term.static "AntFloor" "SIXES_Y" "[I") (.int 4)) (.int (-1))) (by decide +kernel))
      | 5, _ => exact va_eqt (hs (Cond.eq (.elem (Term.static "AntFloor" "SIXES_Y" "[I") (.int 5)) (.int (-1))) (by decide +kernel))
      | q + 6, hq => exact absurd hq (by omega)) hA
    exact ⟨t, va_Zref (hts (.laysStatic "AntFloor" "SIXES_Y" "[I") (by decide +kernel)) hini ht hA, hT⟩
  | j + 4, hj => exact absurd hj (by omega)
theorem law_rows {s : State} {args : Array Value} {A : Nat → Prop} (hts : ∀ w ∈ lw_tbl, w.before args s = true) (hgv : (Jvm.Cond.and given_1 narrow_1).before args s = true) (hA : ∀ a, a < s.heap.size → ¬ A a) (b : Nat) : ∃ ad0 : Nat → Nat, ad0 2000 = b ∧ jZ ad0 A s s.heap := by
  have hr := law_row hts hgv hA
  obtain ⟨t0, z0⟩ := hr 0 (by decide)
  obtain ⟨t1, z1⟩ := hr 1 (by decide)
  obtain ⟨t2, z2⟩ := hr 2 (by decide)
  obtain ⟨t3, z3⟩ := hr 3 (by decide)
  refine ⟨fun i => if i = 2000 then b else if i = 1000 then t0 else if i = 1001 then t1 else if i = 1002 then t2 else t3, rfl, ?_⟩
  intro j hj
  match j, hj with
  | 0, _ => exact z0
  | 1, _ => exact z1
  | 2, _ => exact z2
  | 3, _ => exact z3
  | j + 4, hj => exact absurd hj (by omega)
theorem law_nest {s : State} {args : Array Value} (hts : ∀ w ∈ lw_tbl, w.before args s = true) : jXt s := by
  have h1 : ∀ q ∈ jnw, Cond.methodLinkNest q.1 q.2.1 q.2.2.1 q.2.2.2 ∈ lw_tbl := by decide +kernel
  have h2 : ∀ q ∈ jnf, Cond.fieldLinkNest q.1 q.2.1 "AntFloor" (jzn q.2.2) "[I" "AntFloor" ∈ lw_tbl := by decide +kernel
  refine ⟨fun q hq => va_Nw.of rfl (hts _ (h1 q hq)), fun q hq => va_Nw.of rfl (hts _ (h2 q hq)), va_AO.of (hts (.arrayOver (.object "AntFloor$Ant")) (by decide +kernel)), va_AO.of (hts (.arrayOver (.object "AntFloor$Sheet")) (by decide +kernel)), ?_⟩
  have h3 := hts (.arrayOver (.array .int)) (by decide +kernel)
  exact h3
