/-! ===== the worlds: the class's 37 cells, the reference's 20 behind them ===== -/
def KX : List jK := [.inl (6, [some (some 1), some (some 4), some (some 11), some (some 18), some (some 19), some (some 24), some (some 28), none, none]), .inl (1, [none, none, some (some 2), some (some 3)]), .inr (.inl (0, 57600)), .inr (.inl (0, 57600)), .inl (4, [some (some 5), some (some 10), none]), .inr (.inr (4, [some 6, some 7, some 8, some 9])), .inr (.inl (0, 12)), .inr (.inl (0, 12)), .inr (.inl (0, 12)), .inr (.inl (0, 12)), .inr (.inl (0, 12)), .inr (.inr (2, [some 12, some 13, some 14, some 15, some 16, some 17])), .inl (0, [none, none, none, none]), .inl (0, [none, none, none, none]), .inl (0, [none, none, none, none]), .inl (0, [none, none, none, none]), .inl (0, [none, none, none, none]), .inl (0, [none, none, none, none]), .inr (.inl (0, 6)), .inl (3, [none, some (some 20), some (some 21), some (some 22), some (some 23)]), .inr (.inl (0, 60)), .inr (.inl (0, 60)), .inr (.inl (0, 60)), .inr (.inl (0, 60)), .inl (2, [none, none, none, none, some (some 25), some (some 26), some (some 27)]), .inl (0, [none, none, none, none]), .inr (.inl (0, 57600)), .inr (.inl (0, 57600)), .inr (.inr (3, [some 29, some 31, some 33, some 35])), .inl (5, [none, none, some (some 30)]), .inr (.inl (0, 60)), .inl (5, [none, none, some (some 32)]), .inr (.inl (0, 60)), .inl (5, [none, none, some (some 34)]), .inr (.inl (0, 60)), .inl (5, [none, none, some (some 36)]), .inr (.inl (0, 60))]
def KM : List jK := [.inl (7, [none, none, some (some 38), some (some 39), none, some (some 40), some (some 41), none, none, some (some 42), some (some 43), some (some 44), some (some 45), some (some 46), none, some (some 47), some (some 48), some (some 49), some (some 50), none, none, none, some (some 51), some (some 52), none, none, none, none, none, some (some 53), some (some 54), some (some 55), some (some 56)]), .inr (.inl (0, 57600)), .inr (.inl (0, 57600)), .inr (.inl (0, 48)), .inr (.inl (0, 12)), .inr (.inl (0, 6)), .inr (.inl (0, 6)), .inr (.inl (0, 6)), .inr (.inl (0, 6)), .inr (.inl (0, 6)), .inr (.inl (0, 60)), .inr (.inl (0, 60)), .inr (.inl (0, 60)), .inr (.inl (0, 60)), .inr (.inl (1, 57600)), .inr (.inl (0, 57600)), .inr (.inl (0, 4)), .inr (.inl (0, 4)), .inr (.inl (0, 240)), .inr (.inl (0, 60))]
def jX (K : List jK) : Prop := ∃ KR, K = KX ++ KR
def jXM (K : List jK) : Prop := K = KX ++ KM
theorem jX_at {K : List jK} (hX : jX K) {i : Nat} (hi : i < 37) : K[i]? = KX[i]? := by
  obtain ⟨KR, rfl⟩ := hX
  rw [List.getElem?_append_left (by exact hi)]
theorem jXM_X {K : List jK} (hM : jXM K) : jX K := ⟨KM, hM⟩
theorem jXM_at {K : List jK} (hM : jXM K) {i : Nat} : K[37 + i]? = KM[i]? := by
  cases hM
  rw [List.getElem?_append_right (by show KX.length ≤ _; exact Nat.le_add_right 37 i)]
  show KM[37 + i - 37]? = _
  rw [Nat.add_sub_cancel_left]
theorem jgf_of {K : List jK} {a ci k : Nat} {fs : List jF} (h : K[a]? = some (.inl (ci, fs))) : jgf K a ci k = fs[k]? := by
  unfold jgf; rw [h]; simp
theorem jln_of {K : List jK} {a ti n : Nat} (h : K[a]? = some (.inr (.inl (ti, n)))) : jln K a ti = some n := by
  unfold jln; rw [h]; simp
theorem jlr_of {K : List jK} {a ti : Nat} {ts : List (Option Nat)} (h : K[a]? = some (.inr (.inr (ti, ts)))) : jlr K a ti = some ts := by
  unfold jlr; rw [h]; simp
theorem job_of {K : List jK} {a ci : Nat} {fs : List jF} (h : K[a]? = some (.inl (ci, fs))) : job K a = some ci := by
  unfold job; rw [h]
theorem kx_0_0 {K : List jK} (hX : jX K) : jgf K 0 6 0 = some (some (some 1)) := (jgf_of ((jX_at hX (by decide)).trans rfl)).trans rfl
theorem kx_0_1 {K : List jK} (hX : jX K) : jgf K 0 6 1 = some (some (some 4)) := (jgf_of ((jX_at hX (by decide)).trans rfl)).trans rfl
theorem kx_0_2 {K : List jK} (hX : jX K) : jgf K 0 6 2 = some (some (some 11)) := (jgf_of ((jX_at hX (by decide)).trans rfl)).trans rfl
theorem kx_0_3 {K : List jK} (hX : jX K) : jgf K 0 6 3 = some (some (some 18)) := (jgf_of ((jX_at hX (by decide)).trans rfl)).trans rfl
theorem kx_0_4 {K : List jK} (hX : jX K) : jgf K 0 6 4 = some (some (some 19)) := (jgf_of ((jX_at hX (by decide)).trans rfl)).trans rfl
theorem kx_0_5 {K : List jK} (hX : jX K) : jgf K 0 6 5 = some (some (some 24)) := (jgf_of ((jX_at hX (by decide)).trans rfl)).trans rfl
theorem kx_0_6 {K : List jK} (hX : jX K) : jgf K 0 6 6 = some (some (some 28)) := (jgf_of ((jX_at hX (by decide)).trans rfl)).trans rfl
theorem kx_0_7 {K : List jK} (hX : jX K) : jgf K 0 6 7 = some (none) := (jgf_of ((jX_at hX (by decide)).trans rfl)).trans rfl
theorem kx_0_8 {K : List jK} (hX : jX K) : jgf K 0 6 8 = some (none) := (jgf_of ((jX_at hX (by decide)).trans rfl)).trans rfl
theorem kxo_0 {K : List jK} (hX : jX K) : job K 0 = some 6 := job_of ((jX_at hX (by decide)).trans rfl)
theorem kx_1_0 {K : List jK} (hX : jX K) : jgf K 1 1 0 = some (none) := (jgf_of ((jX_at hX (by decide)).trans rfl)).trans rfl
theorem kx_1_1 {K : List jK} (hX : jX K) : jgf K 1 1 1 = some (none) := (jgf_of ((jX_at hX (by decide)).trans rfl)).trans rfl
theorem kx_1_2 {K : List jK} (hX : jX K) : jgf K 1 1 2 = some (some (some 2)) := (jgf_of ((jX_at hX (by decide)).trans rfl)).trans rfl
theorem kx_1_3 {K : List jK} (hX : jX K) : jgf K 1 1 3 = some (some (some 3)) := (jgf_of ((jX_at hX (by decide)).trans rfl)).trans rfl
theorem kxo_1 {K : List jK} (hX : jX K) : job K 1 = some 1 := job_of ((jX_at hX (by decide)).trans rfl)
theorem kx_4_0 {K : List jK} (hX : jX K) : jgf K 4 4 0 = some (some (some 5)) := (jgf_of ((jX_at hX (by decide)).trans rfl)).trans rfl
theorem kx_4_1 {K : List jK} (hX : jX K) : jgf K 4 4 1 = some (some (some 10)) := (jgf_of ((jX_at hX (by decide)).trans rfl)).trans rfl
theorem kx_4_2 {K : List jK} (hX : jX K) : jgf K 4 4 2 = some (none) := (jgf_of ((jX_at hX (by decide)).trans rfl)).trans rfl
theorem kxo_4 {K : List jK} (hX : jX K) : job K 4 = some 4 := job_of ((jX_at hX (by decide)).trans rfl)
theorem kx_19_0 {K : List jK} (hX : jX K) : jgf K 19 3 0 = some (none) := (jgf_of ((jX_at hX (by decide)).trans rfl)).trans rfl
theorem kx_19_1 {K : List jK} (hX : jX K) : jgf K 19 3 1 = some (some (some 20)) := (jgf_of ((jX_at hX (by decide)).trans rfl)).trans rfl
theorem kx_19_2 {K : List jK} (hX : jX K) : jgf K 19 3 2 = some (some (some 21)) := (jgf_of ((jX_at hX (by decide)).trans rfl)).trans rfl
theorem kx_19_3 {K : List jK} (hX : jX K) : jgf K 19 3 3 = some (some (some 22)) := (jgf_of ((jX_at hX (by decide)).trans rfl)).trans rfl
theorem kx_19_4 {K : List jK} (hX : jX K) : jgf K 19 3 4 = some (some (some 23)) := (jgf_of ((jX_at hX (by decide)).trans rfl)).trans rfl
theorem kxo_19 {K : List jK} (hX : jX K) : job K 19 = some 3 := job_of ((jX_at hX (by decide)).trans rfl)
theorem kx_24_0 {K : List jK} (hX : jX K) : jgf K 24 2 0 = some (none) := (jgf_of ((jX_at hX (by decide)).trans rfl)).trans rfl
theorem kx_24_1 {K : List jK} (hX : jX K) : jgf K 24 2 1 = some (none) := (jgf_of ((jX_at hX (by decide)).trans rfl)).trans rfl
theorem kx_24_2 {K : List jK} (hX : jX K) : jgf K 24 2 2 = some (none) := (jgf_of ((jX_at hX (by decide)).trans rfl)).trans rfl
theorem kx_24_3 {K : List jK} (hX : jX K) : jgf K 24 2 3 = some (none) := (jgf_of ((jX_at hX (by decide)).trans rfl)).trans rfl
theorem kx_24_4 {K : List jK} (hX : jX K) : jgf K 24 2 4 = some (some (some 25)) := (jgf_of ((jX_at hX (by decide)).trans rfl)).trans rfl
theorem kx_24_5 {K : List jK} (hX : jX K) : jgf K 24 2 5 = some (some (some 26)) := (jgf_of ((jX_at hX (by decide)).trans rfl)).trans rfl
theorem kx_24_6 {K : List jK} (hX : jX K) : jgf K 24 2 6 = some (some (some 27)) := (jgf_of ((jX_at hX (by decide)).trans rfl)).trans rfl
theorem kxo_24 {K : List jK} (hX : jX K) : job K 24 = some 2 := job_of ((jX_at hX (by decide)).trans rfl)
theorem kxa_2 {K : List jK} (hX : jX K) : jln K 2 0 = some 57600 := jln_of ((jX_at hX (by decide)).trans rfl)
theorem kxa_3 {K : List jK} (hX : jX K) : jln K 3 0 = some 57600 := jln_of ((jX_at hX (by decide)).trans rfl)
theorem kxa_6 {K : List jK} (hX : jX K) : jln K 6 0 = some 12 := jln_of ((jX_at hX (by decide)).trans rfl)
theorem kxa_7 {K : List jK} (hX : jX K) : jln K 7 0 = some 12 := jln_of ((jX_at hX (by decide)).trans rfl)
theorem kxa_8 {K : List jK} (hX : jX K) : jln K 8 0 = some 12 := jln_of ((jX_at hX (by decide)).trans rfl)
theorem kxa_9 {K : List jK} (hX : jX K) : jln K 9 0 = some 12 := jln_of ((jX_at hX (by decide)).trans rfl)
theorem kxa_10 {K : List jK} (hX : jX K) : jln K 10 0 = some 12 := jln_of ((jX_at hX (by decide)).trans rfl)
theorem kxa_18 {K : List jK} (hX : jX K) : jln K 18 0 = some 6 := jln_of ((jX_at hX (by decide)).trans rfl)
theorem kxa_20 {K : List jK} (hX : jX K) : jln K 20 0 = some 60 := jln_of ((jX_at hX (by decide)).trans rfl)
theorem kxa_21 {K : List jK} (hX : jX K) : jln K 21 0 = some 60 := jln_of ((jX_at hX (by decide)).trans rfl)
theorem kxa_22 {K : List jK} (hX : jX K) : jln K 22 0 = some 60 := jln_of ((jX_at hX (by decide)).trans rfl)
theorem kxa_23 {K : List jK} (hX : jX K) : jln K 23 0 = some 60 := jln_of ((jX_at hX (by decide)).trans rfl)
theorem kxa_26 {K : List jK} (hX : jX K) : jln K 26 0 = some 57600 := jln_of ((jX_at hX (by decide)).trans rfl)
theorem kxa_27 {K : List jK} (hX : jX K) : jln K 27 0 = some 57600 := jln_of ((jX_at hX (by decide)).trans rfl)
theorem kxr_5 {K : List jK} (hX : jX K) : jlr K 5 4 = some [some 6, some 7, some 8, some 9] := jlr_of ((jX_at hX (by decide)).trans rfl)
theorem kxr_11 {K : List jK} (hX : jX K) : jlr K 11 2 = some [some 12, some 13, some 14, some 15, some 16, some 17] := jlr_of ((jX_at hX (by decide)).trans rfl)
theorem kxr_28 {K : List jK} (hX : jX K) : jlr K 28 3 = some [some 29, some 31, some 33, some 35] := jlr_of ((jX_at hX (by decide)).trans rfl)
theorem km_37_0 {K : List jK} (hM : jXM K) : jgf K 37 7 0 = some (none) := (jgf_of ((jXM_at hM (i := 0)).trans rfl)).trans rfl
theorem km_37_1 {K : List jK} (hM : jXM K) : jgf K 37 7 1 = some (none) := (jgf_of ((jXM_at hM (i := 0)).trans rfl)).trans rfl
theorem km_37_2 {K : List jK} (hM : jXM K) : jgf K 37 7 2 = some (some (some 38)) := (jgf_of ((jXM_at hM (i := 0)).trans rfl)).trans rfl
theorem km_37_3 {K : List jK} (hM : jXM K) : jgf K 37 7 3 = some (some (some 39)) := (jgf_of ((jXM_at hM (i := 0)).trans rfl)).trans rfl
theorem km_37_4 {K : List jK} (hM : jXM K) : jgf K 37 7 4 = some (none) := (jgf_of ((jXM_at hM (i := 0)).trans rfl)).trans rfl
theorem km_37_5 {K : List jK} (hM : jXM K) : jgf K 37 7 5 = some (some (some 40)) := (jgf_of ((jXM_at hM (i := 0)).trans rfl)).trans rfl
theorem km_37_6 {K : List jK} (hM : jXM K) : jgf K 37 7 6 = some (some (some 41)) := (jgf_of ((jXM_at hM (i := 0)).trans rfl)).trans rfl
theorem km_37_7 {K : List jK} (hM : jXM K) : jgf K 37 7 7 = some (none) := (jgf_of ((jXM_at hM (i := 0)).trans rfl)).trans rfl
theorem km_37_8 {K : List jK} (hM : jXM K) : jgf K 37 7 8 = some (none) := (jgf_of ((jXM_at hM (i := 0)).trans rfl)).trans rfl
theorem km_37_9 {K : List jK} (hM : jXM K) : jgf K 37 7 9 = some (some (some 42)) := (jgf_of ((jXM_at hM (i := 0)).trans rfl)).trans rfl
theorem km_37_10 {K : List jK} (hM : jXM K) : jgf K 37 7 10 = some (some (some 43)) := (jgf_of ((jXM_at hM (i := 0)).trans rfl)).trans rfl
theorem km_37_11 {K : List jK} (hM : jXM K) : jgf K 37 7 11 = some (some (some 44)) := (jgf_of ((jXM_at hM (i := 0)).trans rfl)).trans rfl
theorem km_37_12 {K : List jK} (hM : jXM K) : jgf K 37 7 12 = some (some (some 45)) := (jgf_of ((jXM_at hM (i := 0)).trans rfl)).trans rfl
theorem km_37_13 {K : List jK} (hM : jXM K) : jgf K 37 7 13 = some (some (some 46)) := (jgf_of ((jXM_at hM (i := 0)).trans rfl)).trans rfl
theorem km_37_14 {K : List jK} (hM : jXM K) : jgf K 37 7 14 = some (none) := (jgf_of ((jXM_at hM (i := 0)).trans rfl)).trans rfl
theorem km_37_15 {K : List jK} (hM : jXM K) : jgf K 37 7 15 = some (some (some 47)) := (jgf_of ((jXM_at hM (i := 0)).trans rfl)).trans rfl
theorem km_37_16 {K : List jK} (hM : jXM K) : jgf K 37 7 16 = some (some (some 48)) := (jgf_of ((jXM_at hM (i := 0)).trans rfl)).trans rfl
theorem km_37_17 {K : List jK} (hM : jXM K) : jgf K 37 7 17 = some (some (some 49)) := (jgf_of ((jXM_at hM (i := 0)).trans rfl)).trans rfl
theorem km_37_18 {K : List jK} (hM : jXM K) : jgf K 37 7 18 = some (some (some 50)) := (jgf_of ((jXM_at hM (i := 0)).trans rfl)).trans rfl
theorem km_37_19 {K : List jK} (hM : jXM K) : jgf K 37 7 19 = some (none) := (jgf_of ((jXM_at hM (i := 0)).trans rfl)).trans rfl
theorem km_37_20 {K : List jK} (hM : jXM K) : jgf K 37 7 20 = some (none) := (jgf_of ((jXM_at hM (i := 0)).trans rfl)).trans rfl
theorem km_37_21 {K : List jK} (hM : jXM K) : jgf K 37 7 21 = some (none) := (jgf_of ((jXM_at hM (i := 0)).trans rfl)).trans rfl
theorem km_37_22 {K : List jK} (hM : jXM K) : jgf K 37 7 22 = some (some (some 51)) := (jgf_of ((jXM_at hM (i := 0)).trans rfl)).trans rfl
theorem km_37_23 {K : List jK} (hM : jXM K) : jgf K 37 7 23 = some (some (some 52)) := (jgf_of ((jXM_at hM (i := 0)).trans rfl)).trans rfl
theorem km_37_24 {K : List jK} (hM : jXM K) : jgf K 37 7 24 = some (none) := (jgf_of ((jXM_at hM (i := 0)).trans rfl)).trans rfl
theorem km_37_25 {K : List jK} (hM : jXM K) : jgf K 37 7 25 = some (none) := (jgf_of ((jXM_at hM (i := 0)).trans rfl)).trans rfl
theorem km_37_26 {K : List jK} (hM : jXM K) : jgf K 37 7 26 = some (none) := (jgf_of ((jXM_at hM (i := 0)).trans rfl)).trans rfl
theorem km_37_27 {K : List jK} (hM : jXM K) : jgf K 37 7 27 = some (none) := (jgf_of ((jXM_at hM (i := 0)).trans rfl)).trans rfl
theorem km_37_28 {K : List jK} (hM : jXM K) : jgf K 37 7 28 = some (none) := (jgf_of ((jXM_at hM (i := 0)).trans rfl)).trans rfl
theorem km_37_29 {K : List jK} (hM : jXM K) : jgf K 37 7 29 = some (some (some 53)) := (jgf_of ((jXM_at hM (i := 0)).trans rfl)).trans rfl
theorem km_37_30 {K : List jK} (hM : jXM K) : jgf K 37 7 30 = some (some (some 54)) := (jgf_of ((jXM_at hM (i := 0)).trans rfl)).trans rfl
theorem km_37_31 {K : List jK} (hM : jXM K) : jgf K 37 7 31 = some (some (some 55)) := (jgf_of ((jXM_at hM (i := 0)).trans rfl)).trans rfl
theorem km_37_32 {K : List jK} (hM : jXM K) : jgf K 37 7 32 = some (some (some 56)) := (jgf_of ((jXM_at hM (i := 0)).trans rfl)).trans rfl
theorem kmo_37 {K : List jK} (hM : jXM K) : job K 37 = some 7 := job_of ((jXM_at hM (i := 0)).trans rfl)
theorem kma_38 {K : List jK} (hM : jXM K) : jln K 38 0 = some 57600 := jln_of ((jXM_at hM (i := 1)).trans rfl)
theorem kma_39 {K : List jK} (hM : jXM K) : jln K 39 0 = some 57600 := jln_of ((jXM_at hM (i := 2)).trans rfl)
theorem kma_40 {K : List jK} (hM : jXM K) : jln K 40 0 = some 48 := jln_of ((jXM_at hM (i := 3)).trans rfl)
theorem kma_41 {K : List jK} (hM : jXM K) : jln K 41 0 = some 12 := jln_of ((jXM_at hM (i := 4)).trans rfl)
theorem kma_42 {K : List jK} (hM : jXM K) : jln K 42 0 = some 6 := jln_of ((jXM_at hM (i := 5)).trans rfl)
theorem kma_43 {K : List jK} (hM : jXM K) : jln K 43 0 = some 6 := jln_of ((jXM_at hM (i := 6)).trans rfl)
theorem kma_44 {K : List jK} (hM : jXM K) : jln K 44 0 = some 6 := jln_of ((jXM_at hM (i := 7)).trans rfl)
theorem kma_45 {K : List jK} (hM : jXM K) : jln K 45 0 = some 6 := jln_of ((jXM_at hM (i := 8)).trans rfl)
theorem kma_46 {K : List jK} (hM : jXM K) : jln K 46 0 = some 6 := jln_of ((jXM_at hM (i := 9)).trans rfl)
theorem kma_47 {K : List jK} (hM : jXM K) : jln K 47 0 = some 60 := jln_of ((jXM_at hM (i := 10)).trans rfl)
theorem kma_48 {K : List jK} (hM : jXM K) : jln K 48 0 = some 60 := jln_of ((jXM_at hM (i := 11)).trans rfl)
theorem kma_49 {K : List jK} (hM : jXM K) : jln K 49 0 = some 60 := jln_of ((jXM_at hM (i := 12)).trans rfl)
theorem kma_50 {K : List jK} (hM : jXM K) : jln K 50 0 = some 60 := jln_of ((jXM_at hM (i := 13)).trans rfl)
theorem kma_52 {K : List jK} (hM : jXM K) : jln K 52 0 = some 57600 := jln_of ((jXM_at hM (i := 15)).trans rfl)
theorem kma_53 {K : List jK} (hM : jXM K) : jln K 53 0 = some 4 := jln_of ((jXM_at hM (i := 16)).trans rfl)
theorem kma_54 {K : List jK} (hM : jXM K) : jln K 54 0 = some 4 := jln_of ((jXM_at hM (i := 17)).trans rfl)
theorem kma_55 {K : List jK} (hM : jXM K) : jln K 55 0 = some 240 := jln_of ((jXM_at hM (i := 18)).trans rfl)
theorem kma_56 {K : List jK} (hM : jXM K) : jln K 56 0 = some 60 := jln_of ((jXM_at hM (i := 19)).trans rfl)
theorem kma_51 {K : List jK} (hM : jXM K) : jln K 51 1 = some 57600 := jln_of ((jXM_at hM (i := 14)).trans rfl)
/-- the ants' numbers: the six, and the mark's -/
def isAnt (a : Nat) : Prop := (12 ≤ a ∧ a < 18) ∨ a = 25
theorem kx_ant {K : List jK} (hX : jX K) {a : Nat} (ha : isAnt a) : K[a]? = some (.inl (0, [none, none, none, none])) := by
  unfold isAnt at ha
  rw [jX_at hX (by omega)]
  rcases ha with ⟨h1, h2⟩ | rfl
  · have : a = 12 ∨ a = 13 ∨ a = 14 ∨ a = 15 ∨ a = 16 ∨ a = 17 := by omega
    rcases this with rfl | rfl | rfl | rfl | rfl | rfl <;> rfl
  · rfl
theorem kxn_0 {K : List jK} (hX : jX K) {a : Nat} (ha : isAnt a) : jgf K a 0 0 = some none := (jgf_of (kx_ant hX ha)).trans rfl
theorem kxn_1 {K : List jK} (hX : jX K) {a : Nat} (ha : isAnt a) : jgf K a 0 1 = some none := (jgf_of (kx_ant hX ha)).trans rfl
theorem kxn_2 {K : List jK} (hX : jX K) {a : Nat} (ha : isAnt a) : jgf K a 0 2 = some none := (jgf_of (kx_ant hX ha)).trans rfl
theorem kxn_3 {K : List jK} (hX : jX K) {a : Nat} (ha : isAnt a) : jgf K a 0 3 = some none := (jgf_of (kx_ant hX ha)).trans rfl
theorem kxn_o {K : List jK} (hX : jX K) {a : Nat} (ha : isAnt a) : job K a = some 0 := job_of (kx_ant hX ha)
theorem kx_ants {i : Nat} (hi : i < 6) : ([some 12, some 13, some 14, some 15, some 16, some 17] : List (Option Nat))[i]?.join = some (12 + i) := by
  have : i = 0 ∨ i = 1 ∨ i = 2 ∨ i = 3 ∨ i = 4 ∨ i = 5 := by omega
  rcases this with rfl | rfl | rfl | rfl | rfl | rfl <;> rfl
theorem kx_rows {i : Nat} (hi : i < 4) : ([some 6, some 7, some 8, some 9] : List (Option Nat))[i]?.join = some (6 + i) := by
  have : i = 0 ∨ i = 1 ∨ i = 2 ∨ i = 3 := by omega
  rcases this with rfl | rfl | rfl | rfl <;> rfl
theorem kx_rowl {K : List jK} (hX : jX K) {i : Nat} (hi : i < 4) : jln K (6 + i) 0 = some 12 := by
  refine jln_of ((jX_at hX (by omega)).trans ?_)
  have : i = 0 ∨ i = 1 ∨ i = 2 ∨ i = 3 := by omega
  rcases this with rfl | rfl | rfl | rfl <;> rfl
theorem kx_shs {i : Nat} (hi : i < 4) : ([some 29, some 31, some 33, some 35] : List (Option Nat))[i]?.join = some (29 + 2 * i) := by
  have : i = 0 ∨ i = 1 ∨ i = 2 ∨ i = 3 := by omega
  rcases this with rfl | rfl | rfl | rfl <;> rfl
theorem kx_sheet {K : List jK} (hX : jX K) {i : Nat} (hi : i < 4) : K[29 + 2 * i]? = some (.inl (5, [none, none, some (some (30 + 2 * i))])) := by
  rw [jX_at hX (by omega)]
  have : i = 0 ∨ i = 1 ∨ i = 2 ∨ i = 3 := by omega
  rcases this with rfl | rfl | rfl | rfl <;> rfl
theorem kxs_0 {K : List jK} (hX : jX K) {i : Nat} (hi : i < 4) : jgf K (29 + 2 * i) 5 0 = some none := (jgf_of (kx_sheet hX hi)).trans rfl
theorem kxs_1 {K : List jK} (hX : jX K) {i : Nat} (hi : i < 4) : jgf K (29 + 2 * i) 5 1 = some none := (jgf_of (kx_sheet hX hi)).trans rfl
theorem kxs_2 {K : List jK} (hX : jX K) {i : Nat} (hi : i < 4) : jgf K (29 + 2 * i) 5 2 = some (some (some (30 + 2 * i))) := (jgf_of (kx_sheet hX hi)).trans rfl
theorem kxs_o {K : List jK} (hX : jX K) {i : Nat} (hi : i < 4) : job K (29 + 2 * i) = some 5 := job_of (kx_sheet hX hi)
theorem kxs_a {K : List jK} (hX : jX K) {i : Nat} (hi : i < 4) : jln K (30 + 2 * i) 0 = some 60 := by
  refine jln_of ((jX_at hX (by omega)).trans ?_)
  have : i = 0 ∨ i = 1 ∨ i = 2 ∨ i = 3 := by omega
  rcases this with rfl | rfl | rfl | rfl <;> rfl
/-- a stretch's head in a method's proof -/
def jHd (cd : Nat → jS) (G : jGt) (Q : jPost) (sg : jS) (pc : Nat) : Prop := ∀ (n : Nat) (L : jL) (st : List Value) (K : List jK) (h : jM) (ce sl : Nat), jwp cd G Q n sg pc L st K h ce sl → G pc L st K h ce sl
abbrev vwCl : List vw_C := [(RX0, TX0, 4), (RX1, TX1, 4), (RX2, TX2, 7), (RX3, TX3, 5), (RX4, TX4, 3), (RX5, TX5, 3), (RX6, TX6, 9)]
/-- memory rows -/
theorem upr_s (h : jM) (c : Nat) (f : Nat → Int32) : upr h c f c = f := if_pos rfl
theorem upr_n {h : jM} {c a : Nat} {f : Nat → Int32} (ha : ¬ a = c) : upr h c f a = h a := if_neg ha
theorem upd_s (f : Nat → Int32) (k : Nat) (v : Int32) : upd f k v k = v := if_pos rfl
theorem upd_n {f : Nat → Int32} {k j : Nat} {v : Int32} (hj : ¬ j = k) : upd f k v j = f j := if_neg hj
theorem up2_n {h : jM} {c k a : Nat} {v : Int32} (ha : ¬ a = c) : up2 h c k v a = h a := if_neg ha
theorem up2_s (h : jM) (c k : Nat) (v : Int32) : up2 h c k v c = upd (h c) k v := if_pos rfl
