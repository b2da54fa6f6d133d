/-! ===== the law: its script, reference 2000 ===== -/
def o_slen (LL : Nat) : jO := fun _ _ nx L st K h ce sl => match st with
  | .ref a :: r => a = 2000 ∧ nx L (.int (nI LL) :: r) K h ce sl
  | _ => False
def o_sld (LL : Nat) (xs : Nat → Int32) : jO := fun _ _ nx L st K h ce sl => match st with
  | .int i :: .ref a :: r => a = 2000 ∧ vp_in i LL ∧ nx L (.int (xs i.toNatClampNeg) :: r) K h ce sl
  | _ => False
def jSc (Γ : jΓ) (b LL : Nat) (xs : Nat → Int32) : Prop := match Γ with
  | (p, l, e, R, s, m, args, below, meth, c, nL, cl, D, cid, A, ad0, k0, Qf) => va_X b LL xs s s.heap ∧ b < s.heap.size ∧ ¬ A b ∧ ad0 2000 = b
theorem so_slen {Γ : jΓ} {Q : jPost} {cc : ByteArray} {own nm : String} {rt : Option FieldType} {ws : List Cond} {fr lo mc ms : Nat} (C : jC Γ cc own nm rt ws fr lo mc ms) {b LL : Nat} {xs : Nat → Int32} (S : jSc Γ b LL xs) {pc : Nat} (hd : decode cc pc = .ok (.arraylength, 1)) : jSA Γ Q pc (o_slen LL) 1 := by
  obtain ⟨p, l, e, R, s, m, args, below, meth, c, nL, cl, D, cid, A, ad0, k0, Qf⟩ := Γ
  obtain ⟨hx, hb, hml, hown, hr, hnm, hts, hlocks, hK, hA, hZ, hfr, hlo, hmc, hms, hXt⟩ := C
  obtain ⟨hX, hbl, hbA, hb2⟩ := S
  intro J nx hJ hn L st K h ce sl ho
  unfold o_slen at ho
  split at ho
  · rename_i a r
    obtain ⟨rfl, ho⟩ := ho
    intro hk ad H locs ls h1 h2 h3 h4 h5
    have hlen := hk.2.1
    have e : ad 2000 = b := (h1 2000 (Or.inr (by omega))).trans hb2
    have h9 := hn _ _ _ _ _ _ ho hk ad H locs ls h1 h2 h3 h4 h5
    simp only [List.map_cons, jv, e] at h9 ⊢
    exact va_slen hx hb hX hbl hbA h4 hd h9
  · exact ho.elim
theorem so_sld {Γ : jΓ} {Q : jPost} {cc : ByteArray} {own nm : String} {rt : Option FieldType} {ws : List Cond} {fr lo mc ms : Nat} (C : jC Γ cc own nm rt ws fr lo mc ms) {b LL : Nat} {xs : Nat → Int32} (S : jSc Γ b LL xs) {pc : Nat} (hd : decode cc pc = .ok (.iaload, 1)) : jSA Γ Q pc (o_sld LL xs) 1 := by
  obtain ⟨p, l, e, R, s, m, args, below, meth, c, nL, cl, D, cid, A, ad0, k0, Qf⟩ := Γ
  obtain ⟨hx, hb, hml, hown, hr, hnm, hts, hlocks, hK, hA, hZ, hfr, hlo, hmc, hms, hXt⟩ := C
  obtain ⟨hX, hbl, hbA, hb2⟩ := S
  intro J nx hJ hn L st K h ce sl ho
  unfold o_sld at ho
  split at ho
  · rename_i i a r
    obtain ⟨rfl, hin, ho⟩ := ho
    intro hk ad H locs ls h1 h2 h3 h4 h5
    have hlen := hk.2.1
    have e : ad 2000 = b := (h1 2000 (Or.inr (by omega))).trans hb2
    have h9 := hn _ _ _ _ _ _ ho hk ad H locs ls h1 h2 h3 h4 h5
    simp only [List.map_cons, jv, e] at h9 ⊢
    exact va_sld hx hb hX hbl hbA h4 hin hd h9
  · exact ho.elim
abbrev qT : jPost := fun _ _ _ => True
def E_L (Γ : jΓ) (b LL : Nat) (xs : Nat → Int32) : Prop := Γ.2.2.2.2.2.2.2.2.2.2.1 = 4 ∧ Γ.2.2.2.2.2.2.2.2.2.2.2.1 = vwCl ∧ (∃ nm, jC Γ cL_law RL nm ret wsL_law 9 322 600000 7302250) ∧ jSc Γ b LL xs

def sg_L_0 (LL : Nat) (xs : Nat → Int32) : jS := [(o_new 600000 7302250 6 jf_X6, 3), (o_dup, 1), (o_callA 600000 7302250 1 36 231019 T_X6_init, 3), (o_astore 1, 1)]
def sg_L_8 (LL : Nat) (xs : Nat → Int32) : jS := [(o_new 600000 7302250 7 jf_X7, 3), (o_dup, 1), (o_callA 600000 7302250 1 19 231038 T_X7_init, 3), (o_astore 2, 1), (o_ic (0), 1), (o_istore 3, 1)]
def sg_L_18 (LL : Nat) (xs : Nat → Int32) : jS := [(o_iload 3, 1), (o_aload 0, 1), (o_slen LL, 1), (o_ic (7), 2), (o_isub, 1), (o_icgt 955, 3), (o_aload 0, 1), (o_iload 3, 1), (o_sld LL xs, 1), (o_ic (31), 2), (o_iand, 1), (o_tsw (0) 949 [144, 177, 240, 263, 316, 329, 372, 405, 438, 461, 474, 507, 540, 563, 586, 600, 613, 636, 649, 692, 735, 758, 811, 886], 111)]
def sg_L_144 (LL : Nat) (xs : Nat → Int32) : jS := [(o_aload 1, 1), (o_aload 0, 1), (o_iload 3, 1), (o_ic (1), 1), (o_iadd, 1), (o_sld LL xs, 1), (o_aload 0, 1), (o_iload 3, 1), (o_ic (2), 1), (o_iadd, 1), (o_sld LL xs, 1), (o_callV 3 6 T_X6_floor, 3)]
def sg_L_158 (LL : Nat) (xs : Nat → Int32) : jS := [(o_aload 2, 1), (o_aload 0, 1), (o_iload 3, 1), (o_ic (1), 1), (o_iadd, 1), (o_sld LL xs, 1), (o_aload 0, 1), (o_iload 3, 1), (o_ic (2), 1), (o_iadd, 1), (o_sld LL xs, 1), (o_callV 3 7 T_X7_floor, 3), (o_iceq 949, 3), (o_ic (0), 1)]
def sg_L_177 (LL : Nat) (xs : Nat → Int32) : jS := [(o_aload 1, 1), (o_aload 0, 1), (o_iload 3, 1), (o_ic (1), 1), (o_iadd, 1), (o_sld LL xs, 1), (o_i2l, 1), (o_ic (32), 2), (o_lshl, 1), (o_aload 0, 1), (o_iload 3, 1), (o_ic (2), 1), (o_iadd, 1), (o_sld LL xs, 1), (o_i2l, 1), (o_lc (4294967295), 3), (o_land, 1), (o_lor, 1), (o_aload 0, 1), (o_iload 3, 1), (o_ic (3), 1), (o_iadd, 1), (o_sld LL xs, 1), (o_callV 3 6 T_X6_type, 3)]
def sg_L_206 (LL : Nat) (xs : Nat → Int32) : jS := [(o_aload 2, 1), (o_aload 0, 1), (o_iload 3, 1), (o_ic (1), 1), (o_iadd, 1), (o_sld LL xs, 1), (o_i2l, 1), (o_ic (32), 2), (o_lshl, 1), (o_aload 0, 1), (o_iload 3, 1), (o_ic (2), 1), (o_iadd, 1), (o_sld LL xs, 1), (o_i2l, 1), (o_lc (4294967295), 3), (o_land, 1), (o_lor, 1), (o_aload 0, 1), (o_iload 3, 1), (o_ic (3), 1), (o_iadd, 1), (o_sld LL xs, 1), (o_callV 3 7 T_X7_type, 3), (o_iceq 949, 3), (o_ic (0), 1)]
def sg_L_240 (LL : Nat) (xs : Nat → Int32) : jS := [(o_aload 1, 1), (o_aload 0, 1), (o_iload 3, 1), (o_ic (1), 1), (o_iadd, 1), (o_sld LL xs, 1), (o_callV 2 6 T_X6_rule, 3)]
def sg_L_249 (LL : Nat) (xs : Nat → Int32) : jS := [(o_aload 2, 1), (o_aload 0, 1), (o_iload 3, 1), (o_ic (1), 1), (o_iadd, 1), (o_sld LL xs, 1), (o_callV 2 7 T_X7_rule, 3), (o_iceq 949, 3), (o_ic (0), 1)]
def sg_L_263 (LL : Nat) (xs : Nat → Int32) : jS := [(o_aload 1, 1), (o_aload 0, 1), (o_iload 3, 1), (o_ic (1), 1), (o_iadd, 1), (o_sld LL xs, 1), (o_aload 0, 1), (o_iload 3, 1), (o_ic (2), 1), (o_iadd, 1), (o_sld LL xs, 1), (o_aload 0, 1), (o_iload 3, 1), (o_ic (3), 1), (o_iadd, 1), (o_sld LL xs, 1), (o_aload 0, 1), (o_iload 3, 1), (o_ic (4), 1), (o_iadd, 1), (o_sld LL xs, 1), (o_callV 5 6 T_X6_ant, 3)]
def sg_L_287 (LL : Nat) (xs : Nat → Int32) : jS := [(o_aload 2, 1), (o_aload 0, 1), (o_iload 3, 1), (o_ic (1), 1), (o_iadd, 1), (o_sld LL xs, 1), (o_aload 0, 1), (o_iload 3, 1), (o_ic (2), 1), (o_iadd, 1), (o_sld LL xs, 1), (o_aload 0, 1), (o_iload 3, 1), (o_ic (3), 1), (o_iadd, 1), (o_sld LL xs, 1), (o_aload 0, 1), (o_iload 3, 1), (o_ic (4), 1), (o_iadd, 1), (o_sld LL xs, 1), (o_callV 5 7 T_X7_ant, 3), (o_iceq 949, 3), (o_ic (0), 1)]
def sg_L_316 (LL : Nat) (xs : Nat → Int32) : jS := [(o_aload 1, 1), (o_callV 1 6 T_X6_less, 3)]
def sg_L_320 (LL : Nat) (xs : Nat → Int32) : jS := [(o_aload 2, 1), (o_callV 1 7 T_X7_less, 3), (o_iceq 949, 3), (o_ic (0), 1)]
def sg_L_329 (LL : Nat) (xs : Nat → Int32) : jS := [(o_aload 1, 1), (o_aload 0, 1), (o_iload 3, 1), (o_ic (1), 1), (o_iadd, 1), (o_sld LL xs, 1), (o_aload 0, 1), (o_iload 3, 1), (o_ic (2), 1), (o_iadd, 1), (o_sld LL xs, 1), (o_aload 0, 1), (o_iload 3, 1), (o_ic (3), 1), (o_iadd, 1), (o_sld LL xs, 1), (o_callV 4 6 T_X6_paint, 3)]
def sg_L_348 (LL : Nat) (xs : Nat → Int32) : jS := [(o_aload 2, 1), (o_aload 0, 1), (o_iload 3, 1), (o_ic (1), 1), (o_iadd, 1), (o_sld LL xs, 1), (o_aload 0, 1), (o_iload 3, 1), (o_ic (2), 1), (o_iadd, 1), (o_sld LL xs, 1), (o_aload 0, 1), (o_iload 3, 1), (o_ic (3), 1), (o_iadd, 1), (o_sld LL xs, 1), (o_callV 4 7 T_X7_paint, 3), (o_iceq 949, 3), (o_ic (0), 1)]
def sg_L_372 (LL : Nat) (xs : Nat → Int32) : jS := [(o_aload 1, 1), (o_aload 0, 1), (o_iload 3, 1), (o_ic (1), 1), (o_iadd, 1), (o_sld LL xs, 1), (o_aload 0, 1), (o_iload 3, 1), (o_ic (2), 1), (o_iadd, 1), (o_sld LL xs, 1), (o_callV 3 6 T_X6_colour, 3)]
def sg_L_386 (LL : Nat) (xs : Nat → Int32) : jS := [(o_aload 2, 1), (o_aload 0, 1), (o_iload 3, 1), (o_ic (1), 1), (o_iadd, 1), (o_sld LL xs, 1), (o_aload 0, 1), (o_iload 3, 1), (o_ic (2), 1), (o_iadd, 1), (o_sld LL xs, 1), (o_callV 3 7 T_X7_colour, 3), (o_iceq 949, 3), (o_ic (0), 1)]
def sg_L_405 (LL : Nat) (xs : Nat → Int32) : jS := [(o_aload 1, 1), (o_aload 0, 1), (o_iload 3, 1), (o_ic (1), 1), (o_iadd, 1), (o_sld LL xs, 1), (o_aload 0, 1), (o_iload 3, 1), (o_ic (2), 1), (o_iadd, 1), (o_sld LL xs, 1), (o_callV 3 6 T_X6_told, 3)]
def sg_L_419 (LL : Nat) (xs : Nat → Int32) : jS := [(o_aload 2, 1), (o_aload 0, 1), (o_iload 3, 1), (o_ic (1), 1), (o_iadd, 1), (o_sld LL xs, 1), (o_aload 0, 1), (o_iload 3, 1), (o_ic (2), 1), (o_iadd, 1), (o_sld LL xs, 1), (o_callV 3 7 T_X7_told, 3), (o_iceq 949, 3), (o_ic (0), 1)]
def sg_L_438 (LL : Nat) (xs : Nat → Int32) : jS := [(o_aload 1, 1), (o_aload 0, 1), (o_iload 3, 1), (o_ic (1), 1), (o_iadd, 1), (o_sld LL xs, 1), (o_callV 2 6 T_X6_run, 3)]
def sg_L_447 (LL : Nat) (xs : Nat → Int32) : jS := [(o_aload 2, 1), (o_aload 0, 1), (o_iload 3, 1), (o_ic (1), 1), (o_iadd, 1), (o_sld LL xs, 1), (o_callV 2 7 T_X7_run, 3), (o_iceq 949, 3), (o_ic (0), 1)]
def sg_L_461 (LL : Nat) (xs : Nat → Int32) : jS := [(o_aload 1, 1), (o_callV 1 6 T_X6_time, 3)]
def sg_L_465 (LL : Nat) (xs : Nat → Int32) : jS := [(o_aload 2, 1), (o_callV 1 7 T_X7_time, 3), (o_iceq 949, 3), (o_ic (0), 1)]
def sg_L_474 (LL : Nat) (xs : Nat → Int32) : jS := [(o_aload 1, 1), (o_aload 0, 1), (o_iload 3, 1), (o_ic (1), 1), (o_iadd, 1), (o_sld LL xs, 1), (o_aload 0, 1), (o_iload 3, 1), (o_ic (2), 1), (o_iadd, 1), (o_sld LL xs, 1), (o_callV 3 6 T_X6_meeting, 3)]
def sg_L_488 (LL : Nat) (xs : Nat → Int32) : jS := [(o_aload 2, 1), (o_aload 0, 1), (o_iload 3, 1), (o_ic (1), 1), (o_iadd, 1), (o_sld LL xs, 1), (o_aload 0, 1), (o_iload 3, 1), (o_ic (2), 1), (o_iadd, 1), (o_sld LL xs, 1), (o_callV 3 7 T_X7_meeting, 3), (o_iceq 949, 3), (o_ic (0), 1)]
def sg_L_507 (LL : Nat) (xs : Nat → Int32) : jS := [(o_aload 1, 1), (o_aload 0, 1), (o_iload 3, 1), (o_ic (1), 1), (o_iadd, 1), (o_sld LL xs, 1), (o_aload 0, 1), (o_iload 3, 1), (o_ic (2), 1), (o_iadd, 1), (o_sld LL xs, 1), (o_callV 3 6 T_X6_visits, 3)]
def sg_L_521 (LL : Nat) (xs : Nat → Int32) : jS := [(o_aload 2, 1), (o_aload 0, 1), (o_iload 3, 1), (o_ic (1), 1), (o_iadd, 1), (o_sld LL xs, 1), (o_aload 0, 1), (o_iload 3, 1), (o_ic (2), 1), (o_iadd, 1), (o_sld LL xs, 1), (o_callV 3 7 T_X7_visits, 3), (o_iceq 949, 3), (o_ic (0), 1)]
def sg_L_540 (LL : Nat) (xs : Nat → Int32) : jS := [(o_aload 1, 1), (o_aload 0, 1), (o_iload 3, 1), (o_ic (1), 1), (o_iadd, 1), (o_sld LL xs, 1), (o_callV 2 6 T_X6_count, 3)]
def sg_L_549 (LL : Nat) (xs : Nat → Int32) : jS := [(o_aload 2, 1), (o_aload 0, 1), (o_iload 3, 1), (o_ic (1), 1), (o_iadd, 1), (o_sld LL xs, 1), (o_callV 2 7 T_X7_count, 3), (o_iceq 949, 3), (o_ic (0), 1)]
def sg_L_563 (LL : Nat) (xs : Nat → Int32) : jS := [(o_aload 1, 1), (o_aload 0, 1), (o_iload 3, 1), (o_ic (1), 1), (o_iadd, 1), (o_sld LL xs, 1), (o_callV 2 6 T_X6_bounds, 3)]
def sg_L_572 (LL : Nat) (xs : Nat → Int32) : jS := [(o_aload 2, 1), (o_aload 0, 1), (o_iload 3, 1), (o_ic (1), 1), (o_iadd, 1), (o_sld LL xs, 1), (o_callV 2 7 T_X7_bounds, 3), (o_iceq 949, 3), (o_ic (0), 1)]
def sg_L_586 (LL : Nat) (xs : Nat → Int32) : jS := [(o_aload 1, 1), (o_callV 1 6 T_X6_digest, 3)]
def sg_L_590 (LL : Nat) (xs : Nat → Int32) : jS := [(o_aload 2, 1), (o_callV 1 7 T_X7_digest, 3), (o_lcmp, 1), (o_ifeq 949, 3), (o_ic (0), 1)]
def sg_L_600 (LL : Nat) (xs : Nat → Int32) : jS := [(o_aload 1, 1), (o_callV 1 6 T_X6_mark, 3)]
def sg_L_604 (LL : Nat) (xs : Nat → Int32) : jS := [(o_aload 2, 1), (o_callV 1 7 T_X7_mark, 3), (o_iceq 949, 3), (o_ic (0), 1)]
def sg_L_613 (LL : Nat) (xs : Nat → Int32) : jS := [(o_aload 1, 1), (o_aload 0, 1), (o_iload 3, 1), (o_ic (1), 1), (o_iadd, 1), (o_sld LL xs, 1), (o_callV 2 6 T_X6_road, 3)]
def sg_L_622 (LL : Nat) (xs : Nat → Int32) : jS := [(o_aload 2, 1), (o_aload 0, 1), (o_iload 3, 1), (o_ic (1), 1), (o_iadd, 1), (o_sld LL xs, 1), (o_callV 2 7 T_X7_road, 3), (o_iceq 949, 3), (o_ic (0), 1)]
def sg_L_636 (LL : Nat) (xs : Nat → Int32) : jS := [(o_aload 1, 1), (o_callV 1 6 T_X6_differ, 3)]
def sg_L_640 (LL : Nat) (xs : Nat → Int32) : jS := [(o_aload 2, 1), (o_callV 1 7 T_X7_differ, 3), (o_iceq 949, 3), (o_ic (0), 1)]
def sg_L_649 (LL : Nat) (xs : Nat → Int32) : jS := [(o_aload 1, 1), (o_aload 0, 1), (o_iload 3, 1), (o_ic (1), 1), (o_iadd, 1), (o_sld LL xs, 1), (o_aload 0, 1), (o_iload 3, 1), (o_ic (2), 1), (o_iadd, 1), (o_sld LL xs, 1), (o_aload 0, 1), (o_iload 3, 1), (o_ic (3), 1), (o_iadd, 1), (o_sld LL xs, 1), (o_callV 4 6 T_X6_like, 3)]
def sg_L_668 (LL : Nat) (xs : Nat → Int32) : jS := [(o_aload 2, 1), (o_aload 0, 1), (o_iload 3, 1), (o_ic (1), 1), (o_iadd, 1), (o_sld LL xs, 1), (o_aload 0, 1), (o_iload 3, 1), (o_ic (2), 1), (o_iadd, 1), (o_sld LL xs, 1), (o_aload 0, 1), (o_iload 3, 1), (o_ic (3), 1), (o_iadd, 1), (o_sld LL xs, 1), (o_callV 4 7 T_X7_like, 3), (o_iceq 949, 3), (o_ic (0), 1)]
def sg_L_692 (LL : Nat) (xs : Nat → Int32) : jS := [(o_aload 1, 1), (o_aload 0, 1), (o_iload 3, 1), (o_ic (1), 1), (o_iadd, 1), (o_sld LL xs, 1), (o_aload 0, 1), (o_iload 3, 1), (o_ic (2), 1), (o_iadd, 1), (o_sld LL xs, 1), (o_aload 0, 1), (o_iload 3, 1), (o_ic (3), 1), (o_iadd, 1), (o_sld LL xs, 1), (o_callV 4 6 T_X6_sheet, 3)]
def sg_L_711 (LL : Nat) (xs : Nat → Int32) : jS := [(o_aload 2, 1), (o_aload 0, 1), (o_iload 3, 1), (o_ic (1), 1), (o_iadd, 1), (o_sld LL xs, 1), (o_aload 0, 1), (o_iload 3, 1), (o_ic (2), 1), (o_iadd, 1), (o_sld LL xs, 1), (o_aload 0, 1), (o_iload 3, 1), (o_ic (3), 1), (o_iadd, 1), (o_sld LL xs, 1), (o_callV 4 7 T_X7_sheet, 3), (o_iceq 949, 3), (o_ic (0), 1)]
def sg_L_735 (LL : Nat) (xs : Nat → Int32) : jS := [(o_aload 1, 1), (o_aload 0, 1), (o_iload 3, 1), (o_ic (1), 1), (o_iadd, 1), (o_sld LL xs, 1), (o_callV 2 6 T_X6_drop, 3)]
def sg_L_744 (LL : Nat) (xs : Nat → Int32) : jS := [(o_aload 2, 1), (o_aload 0, 1), (o_iload 3, 1), (o_ic (1), 1), (o_iadd, 1), (o_sld LL xs, 1), (o_callV 2 7 T_X7_drop, 3), (o_iceq 949, 3), (o_ic (0), 1)]
def sg_L_758 (LL : Nat) (xs : Nat → Int32) : jS := [(o_aload 1, 1), (o_aload 0, 1), (o_iload 3, 1), (o_ic (1), 1), (o_iadd, 1), (o_sld LL xs, 1), (o_aload 0, 1), (o_iload 3, 1), (o_ic (2), 1), (o_iadd, 1), (o_sld LL xs, 1), (o_aload 0, 1), (o_iload 3, 1), (o_ic (3), 1), (o_iadd, 1), (o_sld LL xs, 1), (o_aload 0, 1), (o_iload 3, 1), (o_ic (4), 1), (o_iadd, 1), (o_sld LL xs, 1), (o_callV 5 6 T_X6_item, 3)]
def sg_L_782 (LL : Nat) (xs : Nat → Int32) : jS := [(o_aload 2, 1), (o_aload 0, 1), (o_iload 3, 1), (o_ic (1), 1), (o_iadd, 1), (o_sld LL xs, 1), (o_aload 0, 1), (o_iload 3, 1), (o_ic (2), 1), (o_iadd, 1), (o_sld LL xs, 1), (o_aload 0, 1), (o_iload 3, 1), (o_ic (3), 1), (o_iadd, 1), (o_sld LL xs, 1), (o_aload 0, 1), (o_iload 3, 1), (o_ic (4), 1), (o_iadd, 1), (o_sld LL xs, 1), (o_callV 5 7 T_X7_item, 3), (o_iceq 949, 3), (o_ic (0), 1)]
def sg_L_811 (LL : Nat) (xs : Nat → Int32) : jS := [(o_aload 1, 1), (o_aload 0, 1), (o_iload 3, 1), (o_ic (1), 1), (o_iadd, 1), (o_sld LL xs, 1), (o_aload 0, 1), (o_iload 3, 1), (o_ic (2), 1), (o_iadd, 1), (o_sld LL xs, 1), (o_aload 0, 1), (o_iload 3, 1), (o_ic (3), 1), (o_iadd, 1), (o_sld LL xs, 1), (o_aload 0, 1), (o_iload 3, 1), (o_ic (4), 1), (o_iadd, 1), (o_sld LL xs, 1), (o_aload 0, 1), (o_iload 3, 1), (o_ic (5), 1), (o_iadd, 1), (o_sld LL xs, 1), (o_aload 0, 1), (o_iload 3, 1), (o_ic (6), 2), (o_iadd, 1), (o_sld LL xs, 1), (o_callV 7 6 T_X6_lay, 3)]
def sg_L_846 (LL : Nat) (xs : Nat → Int32) : jS := [(o_aload 2, 1), (o_aload 0, 1), (o_iload 3, 1), (o_ic (1), 1), (o_iadd, 1), (o_sld LL xs, 1), (o_aload 0, 1), (o_iload 3, 1), (o_ic (2), 1), (o_iadd, 1), (o_sld LL xs, 1), (o_aload 0, 1), (o_iload 3, 1), (o_ic (3), 1), (o_iadd, 1), (o_sld LL xs, 1), (o_aload 0, 1), (o_iload 3, 1), (o_ic (4), 1), (o_iadd, 1), (o_sld LL xs, 1), (o_aload 0, 1), (o_iload 3, 1), (o_ic (5), 1), (o_iadd, 1), (o_sld LL xs, 1), (o_aload 0, 1), (o_iload 3, 1), (o_ic (6), 2), (o_iadd, 1), (o_sld LL xs, 1), (o_callV 7 7 T_X7_lay, 3), (o_iceq 949, 3), (o_ic (0), 1)]
def sg_L_886 (LL : Nat) (xs : Nat → Int32) : jS := [(o_aload 1, 1), (o_aload 0, 1), (o_iload 3, 1), (o_ic (1), 1), (o_iadd, 1), (o_sld LL xs, 1), (o_aload 0, 1), (o_iload 3, 1), (o_ic (2), 1), (o_iadd, 1), (o_sld LL xs, 1), (o_aload 0, 1), (o_iload 3, 1), (o_ic (3), 1), (o_iadd, 1), (o_sld LL xs, 1), (o_aload 0, 1), (o_iload 3, 1), (o_ic (4), 1), (o_iadd, 1), (o_sld LL xs, 1), (o_aload 0, 1), (o_iload 3, 1), (o_ic (5), 1), (o_iadd, 1), (o_sld LL xs, 1), (o_callV 6 6 T_X6_copy, 3)]
def sg_L_915 (LL : Nat) (xs : Nat → Int32) : jS := [(o_aload 2, 1), (o_aload 0, 1), (o_iload 3, 1), (o_ic (1), 1), (o_iadd, 1), (o_sld LL xs, 1), (o_aload 0, 1), (o_iload 3, 1), (o_ic (2), 1), (o_iadd, 1), (o_sld LL xs, 1), (o_aload 0, 1), (o_iload 3, 1), (o_ic (3), 1), (o_iadd, 1), (o_sld LL xs, 1), (o_aload 0, 1), (o_iload 3, 1), (o_ic (4), 1), (o_iadd, 1), (o_sld LL xs, 1), (o_aload 0, 1), (o_iload 3, 1), (o_ic (5), 1), (o_iadd, 1), (o_sld LL xs, 1), (o_callV 6 7 T_X7_copy, 3), (o_iceq 949, 3), (o_ic (0), 1)]
def sg_L_949 (LL : Nat) (xs : Nat → Int32) : jS := [(o_iinc 3 (7), 3), (o_goto 18, 3)]
def sg_L_955 (LL : Nat) (xs : Nat → Int32) : jS := [(o_ic (1), 1)]
theorem wi_L_law_X6 : ∀ w ∈ u_ws RX6 TX6 9, w ∈ wsL_law := by exact inlX6
theorem wi_L_law_X7 : ∀ w ∈ u_ws RX7 TX7 33, w ∈ wsL_law := by exact inlX7
def cd_L : Nat → jS := fun _ => []
