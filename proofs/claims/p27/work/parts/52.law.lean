/-! ===== the law's stretches ===== -/

def sg_L_law_0 (LL : Nat) (xs : Nat → Int32) : jS := [(o_new 600000 7302250 6 jf_X6, 3), (o_dup, 1), (o_callA 600000 7302250 1 36 231019 T_X6_init, 3), (o_astore 1, 1)]
def sg_L_law_8 (LL : Nat) (xs : Nat → Int32) : jS := [(o_aload 1, 1), (o_aload 0, 1), (o_call 2 (T_L_lays LL xs), 3)]
def sg_L_law_13 (LL : Nat) (xs : Nat → Int32) : jS := [(o_istore 2, 1), (o_iload 2, 1), (o_ic (1), 1), (o_icle 23, 3), (o_ic (1), 1), (o_goto 24, 3)]
def sg_L_law_23 (LL : Nat) (xs : Nat → Int32) : jS := [(o_ic (0), 1), (o_istore 3, 1), (o_new 600000 7302250 6 jf_X6, 3), (o_dup, 1)]
def sg_L_law_24 (LL : Nat) (xs : Nat → Int32) : jS := [(o_istore 3, 1), (o_new 600000 7302250 6 jf_X6, 3), (o_dup, 1)]
def sg_L_law_29 (LL : Nat) (xs : Nat → Int32) : jS := [(o_ct1 600000 7302250 36 231019 T_X6_init, 3)]
def sg_L_law_32 (LL : Nat) (xs : Nat → Int32) : jS := [(o_astore 4, 2), (o_iload 3, 1), (o_ifeq 65, 3), (o_aload 4, 2), (o_aload 0, 1)]
def sg_L_law_41 (LL : Nat) (xs : Nat → Int32) : jS := [(o_sS1 (T_L_lays LL xs), 3)]
def sg_L_law_44 (LL : Nat) (xs : Nat → Int32) : jS := [(o_iload 2, 1), (o_icne 65, 3), (o_aload 4, 2)]
def sg_L_law_50 (LL : Nat) (xs : Nat → Int32) : jS := [(o_cv1 1 6 T_X6_digest, 3)]
def sg_L_law_53 (LL : Nat) (xs : Nat → Int32) : jS := [(o_aload 1, 1)]
def sg_L_law_54 (LL : Nat) (xs : Nat → Int32) : jS := [(o_cv0 1 6 T_X6_digest, 3)]
def sg_L_law_57 (LL : Nat) (xs : Nat → Int32) : jS := [(o_lcmp, 1), (o_ifne 65, 3), (o_ic (1), 1), (o_goto 66, 3)]
def sg_L_law_65 (LL : Nat) (xs : Nat → Int32) : jS := [(o_ic (0), 1), (o_istore 3, 1), (o_ic (0), 1), (o_istore 5, 2), (o_ic (0), 1), (o_istore 6, 2)]
def sg_L_law_66 (LL : Nat) (xs : Nat → Int32) : jS := [(o_istore 3, 1), (o_ic (0), 1), (o_istore 5, 2), (o_ic (0), 1), (o_istore 6, 2)]
def sg_L_law_73 (LL : Nat) (xs : Nat → Int32) : jS := [(o_iload 6, 2), (o_ic (9), 2), (o_icge 492, 3), (o_iload 3, 1), (o_ifeq 492, 3), (o_aload 0, 1), (o_ic (30), 2), (o_iload 6, 2), (o_iadd, 1), (o_call 2 (T_L_cell LL xs), 3), (o_istore 7, 2)]
def sg_L_law_95 (LL : Nat) (xs : Nat → Int32) : jS := [(o_iload 7, 2), (o_ic (1), 1), (o_iand, 1), (o_ifne 115, 3), (o_ic (1), 1), (o_iload 7, 2), (o_ic (1), 1), (o_ishr, 1), (o_ic (160), 3), (o_irem, 1), (o_iadd, 1), (o_goto 125, 3)]
def sg_L_law_115 (LL : Nat) (xs : Nat → Int32) : jS := [(o_ic (-1), 1), (o_iload 7, 2), (o_ic (1), 1), (o_ishr, 1), (o_ic (160), 3), (o_irem, 1), (o_isub, 1), (o_istore 8, 2)]
def sg_L_law_125 (LL : Nat) (xs : Nat → Int32) : jS := [(o_istore 8, 2)]
def sg_L_law_127 (LL : Nat) (xs : Nat → Int32) : jS := [(o_aload 1, 1), (o_iload 8, 2)]
def sg_L_law_130 (LL : Nat) (xs : Nat → Int32) : jS := [(o_cv0 2 6 T_X6_run, 3)]
def sg_L_law_133 (LL : Nat) (xs : Nat → Int32) : jS := [(o_istore 9, 2), (o_iload 9, 2), (o_ic (-4), 2), (o_iceq 165, 3), (o_iload 9, 2), (o_ifle 169, 3), (o_iload 9, 2), (o_iload 8, 2), (o_ifge 160, 3), (o_iload 8, 2), (o_ineg, 1), (o_goto 162, 3)]
def sg_L_law_160 (LL : Nat) (xs : Nat → Int32) : jS := [(o_iload 8, 2), (o_icgt 169, 3), (o_ic (1), 1), (o_goto 170, 3)]
def sg_L_law_162 (LL : Nat) (xs : Nat → Int32) : jS := [(o_icgt 169, 3), (o_ic (1), 1), (o_goto 170, 3)]
def sg_L_law_165 (LL : Nat) (xs : Nat → Int32) : jS := [(o_ic (1), 1), (o_goto 170, 3)]
def sg_L_law_169 (LL : Nat) (xs : Nat → Int32) : jS := [(o_ic (0), 1), (o_istore 3, 1)]
def sg_L_law_170 (LL : Nat) (xs : Nat → Int32) : jS := [(o_istore 3, 1)]
def sg_L_law_171 (LL : Nat) (xs : Nat → Int32) : jS := [(o_iload 5, 2), (o_iload 9, 2), (o_ifge 182, 3), (o_ic (0), 1), (o_goto 195, 3)]
def sg_L_law_182 (LL : Nat) (xs : Nat → Int32) : jS := [(o_iload 8, 2), (o_ifge 193, 3), (o_iload 9, 2), (o_ineg, 1), (o_goto 195, 3)]
def sg_L_law_193 (LL : Nat) (xs : Nat → Int32) : jS := [(o_iload 9, 2), (o_iadd, 1), (o_istore 5, 2)]
def sg_L_law_195 (LL : Nat) (xs : Nat → Int32) : jS := [(o_iadd, 1), (o_istore 5, 2)]
def sg_L_law_198 (LL : Nat) (xs : Nat → Int32) : jS := [(o_iload 3, 1), (o_ifeq 215, 3), (o_aload 1, 1)]
def sg_L_law_203 (LL : Nat) (xs : Nat → Int32) : jS := [(o_cv0 1 6 T_X6_time, 3)]
def sg_L_law_206 (LL : Nat) (xs : Nat → Int32) : jS := [(o_iload 5, 2), (o_icne 215, 3), (o_ic (1), 1), (o_goto 216, 3)]
def sg_L_law_215 (LL : Nat) (xs : Nat → Int32) : jS := [(o_ic (0), 1), (o_istore 3, 1)]
def sg_L_law_216 (LL : Nat) (xs : Nat → Int32) : jS := [(o_istore 3, 1)]
def sg_L_law_217 (LL : Nat) (xs : Nat → Int32) : jS := [(o_iload 5, 2), (o_aload 4, 2)]
def sg_L_law_221 (LL : Nat) (xs : Nat → Int32) : jS := [(o_cv1 1 6 T_X6_time, 3)]
def sg_L_law_224 (LL : Nat) (xs : Nat → Int32) : jS := [(o_isub, 1), (o_istore 10, 2)]
def sg_L_law_227 (LL : Nat) (xs : Nat → Int32) : jS := [(o_iload 3, 1), (o_ifeq 286, 3), (o_iload 10, 2), (o_ifeq 259, 3), (o_aload 4, 2), (o_iload 10, 2)]
def sg_L_law_240 (LL : Nat) (xs : Nat → Int32) : jS := [(o_cv1 2 6 T_X6_run, 3)]
def sg_L_law_243 (LL : Nat) (xs : Nat → Int32) : jS := [(o_iload 10, 2), (o_ifge 254, 3), (o_iload 10, 2), (o_ineg, 1), (o_goto 256, 3)]
def sg_L_law_254 (LL : Nat) (xs : Nat → Int32) : jS := [(o_iload 10, 2), (o_icne 286, 3)]
def sg_L_law_256 (LL : Nat) (xs : Nat → Int32) : jS := [(o_icne 286, 3)]
def sg_L_law_259 (LL : Nat) (xs : Nat → Int32) : jS := [(o_aload 4, 2)]
def sg_L_law_261 (LL : Nat) (xs : Nat → Int32) : jS := [(o_cv1 1 6 T_X6_time, 3)]
def sg_L_law_264 (LL : Nat) (xs : Nat → Int32) : jS := [(o_iload 5, 2), (o_icne 286, 3), (o_aload 4, 2)]
def sg_L_law_271 (LL : Nat) (xs : Nat → Int32) : jS := [(o_cv1 1 6 T_X6_digest, 3)]
def sg_L_law_274 (LL : Nat) (xs : Nat → Int32) : jS := [(o_aload 1, 1)]
def sg_L_law_275 (LL : Nat) (xs : Nat → Int32) : jS := [(o_cv0 1 6 T_X6_digest, 3)]
def sg_L_law_278 (LL : Nat) (xs : Nat → Int32) : jS := [(o_lcmp, 1), (o_ifne 286, 3), (o_ic (1), 1), (o_goto 287, 3)]
def sg_L_law_286 (LL : Nat) (xs : Nat → Int32) : jS := [(o_ic (0), 1), (o_istore 3, 1)]
def sg_L_law_287 (LL : Nat) (xs : Nat → Int32) : jS := [(o_istore 3, 1)]
def sg_L_law_288 (LL : Nat) (xs : Nat → Int32) : jS := [(o_ic (0), 1), (o_istore 11, 2)]
def sg_L_law_291 (LL : Nat) (xs : Nat → Int32) : jS := [(o_iload 11, 2), (o_aload 1, 1), (o_ic (0), 1)]
def sg_L_law_295 (LL : Nat) (xs : Nat → Int32) : jS := [(o_cv0 2 6 T_X6_count, 3)]
def sg_L_law_298 (LL : Nat) (xs : Nat → Int32) : jS := [(o_icge 411, 3), (o_iload 3, 1), (o_ifeq 411, 3), (o_aload 1, 1), (o_iload 11, 2), (o_ic (0), 1)]
def sg_L_law_309 (LL : Nat) (xs : Nat → Int32) : jS := [(o_cv0 3 6 T_X6_told, 3)]
def sg_L_law_312 (LL : Nat) (xs : Nat → Int32) : jS := [(o_aload 4, 2), (o_iload 11, 2), (o_ic (0), 1)]
def sg_L_law_317 (LL : Nat) (xs : Nat → Int32) : jS := [(o_cv1 3 6 T_X6_told, 3)]
def sg_L_law_320 (LL : Nat) (xs : Nat → Int32) : jS := [(o_icne 403, 3), (o_aload 1, 1), (o_iload 11, 2), (o_ic (1), 1)]
def sg_L_law_327 (LL : Nat) (xs : Nat → Int32) : jS := [(o_cv0 3 6 T_X6_told, 3)]
def sg_L_law_330 (LL : Nat) (xs : Nat → Int32) : jS := [(o_aload 4, 2), (o_iload 11, 2), (o_ic (1), 1)]
def sg_L_law_335 (LL : Nat) (xs : Nat → Int32) : jS := [(o_cv1 3 6 T_X6_told, 3)]
def sg_L_law_338 (LL : Nat) (xs : Nat → Int32) : jS := [(o_icne 403, 3), (o_aload 1, 1), (o_iload 11, 2), (o_ic (2), 1)]
def sg_L_law_345 (LL : Nat) (xs : Nat → Int32) : jS := [(o_cv0 3 6 T_X6_told, 3)]
def sg_L_law_348 (LL : Nat) (xs : Nat → Int32) : jS := [(o_aload 4, 2), (o_iload 11, 2), (o_ic (2), 1)]
def sg_L_law_353 (LL : Nat) (xs : Nat → Int32) : jS := [(o_cv1 3 6 T_X6_told, 3)]
def sg_L_law_356 (LL : Nat) (xs : Nat → Int32) : jS := [(o_icne 403, 3), (o_aload 1, 1), (o_aload 1, 1), (o_iload 11, 2), (o_ic (0), 1)]
def sg_L_law_364 (LL : Nat) (xs : Nat → Int32) : jS := [(o_cv0 3 6 T_X6_told, 3)]
def sg_L_law_367 (LL : Nat) (xs : Nat → Int32) : jS := [(o_aload 1, 1), (o_iload 11, 2), (o_ic (1), 1)]
def sg_L_law_371 (LL : Nat) (xs : Nat → Int32) : jS := [(o_cv0 3 6 T_X6_told, 3)]
def sg_L_law_374 (LL : Nat) (xs : Nat → Int32) : jS := [(o_cv0 3 6 T_X6_visits, 3)]
def sg_L_law_377 (LL : Nat) (xs : Nat → Int32) : jS := [(o_aload 4, 2), (o_aload 1, 1), (o_iload 11, 2), (o_ic (0), 1)]
def sg_L_law_383 (LL : Nat) (xs : Nat → Int32) : jS := [(o_cv0 3 6 T_X6_told, 3)]
def sg_L_law_386 (LL : Nat) (xs : Nat → Int32) : jS := [(o_aload 1, 1), (o_iload 11, 2), (o_ic (1), 1)]
def sg_L_law_390 (LL : Nat) (xs : Nat → Int32) : jS := [(o_cv0 3 6 T_X6_told, 3)]
def sg_L_law_393 (LL : Nat) (xs : Nat → Int32) : jS := [(o_cv1 3 6 T_X6_visits, 3)]
def sg_L_law_396 (LL : Nat) (xs : Nat → Int32) : jS := [(o_icne 403, 3), (o_ic (1), 1), (o_goto 404, 3)]
def sg_L_law_403 (LL : Nat) (xs : Nat → Int32) : jS := [(o_ic (0), 1), (o_istore 3, 1), (o_iinc 11 (1), 3), (o_goto 291, 3)]
def sg_L_law_404 (LL : Nat) (xs : Nat → Int32) : jS := [(o_istore 3, 1), (o_iinc 11 (1), 3), (o_goto 291, 3)]
def sg_L_law_411 (LL : Nat) (xs : Nat → Int32) : jS := [(o_iload 3, 1), (o_ifeq 484, 3), (o_aload 1, 1), (o_ic (3), 1)]
def sg_L_law_417 (LL : Nat) (xs : Nat → Int32) : jS := [(o_cv0 2 6 T_X6_count, 3)]
def sg_L_law_420 (LL : Nat) (xs : Nat → Int32) : jS := [(o_aload 4, 2), (o_ic (3), 1)]
def sg_L_law_423 (LL : Nat) (xs : Nat → Int32) : jS := [(o_cv1 2 6 T_X6_count, 3)]
def sg_L_law_426 (LL : Nat) (xs : Nat → Int32) : jS := [(o_icne 484, 3)]
def sg_L_law_429 (LL : Nat) (xs : Nat → Int32) : jS := [(o_iload 9, 2), (o_iflt 480, 3), (o_iload 9, 2), (o_iload 8, 2), (o_ifge 447, 3), (o_iload 8, 2), (o_ineg, 1), (o_goto 449, 3)]
def sg_L_law_447 (LL : Nat) (xs : Nat → Int32) : jS := [(o_iload 8, 2), (o_iceq 480, 3)]
def sg_L_law_449 (LL : Nat) (xs : Nat → Int32) : jS := [(o_iceq 480, 3)]
def sg_L_law_452 (LL : Nat) (xs : Nat → Int32) : jS := [(o_aload 1, 1), (o_iload 8, 2), (o_ifge 462, 3), (o_ic (-1), 1), (o_goto 463, 3)]
def sg_L_law_462 (LL : Nat) (xs : Nat → Int32) : jS := [(o_ic (1), 1)]
def sg_L_law_463 (LL : Nat) (xs : Nat → Int32) : jS := [(o_cv0 2 6 T_X6_run, 3)]
def sg_L_law_466 (LL : Nat) (xs : Nat → Int32) : jS := [(o_ic (-4), 2), (o_icne 484, 3), (o_aload 1, 1)]
def sg_L_law_472 (LL : Nat) (xs : Nat → Int32) : jS := [(o_cv0 1 6 T_X6_time, 3)]
def sg_L_law_475 (LL : Nat) (xs : Nat → Int32) : jS := [(o_iload 5, 2), (o_icne 484, 3), (o_ic (1), 1), (o_goto 485, 3)]
def sg_L_law_480 (LL : Nat) (xs : Nat → Int32) : jS := [(o_ic (1), 1), (o_goto 485, 3)]
def sg_L_law_484 (LL : Nat) (xs : Nat → Int32) : jS := [(o_ic (0), 1)]
def sg_L_law_485 (LL : Nat) (xs : Nat → Int32) : jS := [(o_istore 3, 1), (o_iinc 6 (1), 3), (o_goto 73, 3)]
def sg_L_law_492 (LL : Nat) (xs : Nat → Int32) : jS := [(o_aload 1, 1)]
def sg_L_law_493 (LL : Nat) (xs : Nat → Int32) : jS := [(o_cv0 1 6 T_X6_digest, 3)]
def sg_L_law_496 (LL : Nat) (xs : Nat → Int32) : jS := [(o_lstore 6, 2)]
def sg_L_law_498 (LL : Nat) (xs : Nat → Int32) : jS := [(o_iload 3, 1), (o_ifeq 549, 3), (o_iload 5, 2), (o_ifeq 530, 3), (o_aload 1, 1), (o_iload 5, 2), (o_ineg, 1)]
def sg_L_law_511 (LL : Nat) (xs : Nat → Int32) : jS := [(o_cv0 2 6 T_X6_run, 3)]
def sg_L_law_514 (LL : Nat) (xs : Nat → Int32) : jS := [(o_iload 5, 2), (o_ifge 525, 3), (o_iload 5, 2), (o_ineg, 1), (o_goto 527, 3)]
def sg_L_law_525 (LL : Nat) (xs : Nat → Int32) : jS := [(o_iload 5, 2), (o_icne 549, 3)]
def sg_L_law_527 (LL : Nat) (xs : Nat → Int32) : jS := [(o_icne 549, 3)]
def sg_L_law_530 (LL : Nat) (xs : Nat → Int32) : jS := [(o_aload 1, 1)]
def sg_L_law_531 (LL : Nat) (xs : Nat → Int32) : jS := [(o_cv0 1 6 T_X6_time, 3)]
def sg_L_law_534 (LL : Nat) (xs : Nat → Int32) : jS := [(o_ifne 549, 3), (o_aload 1, 1), (o_ic (1), 1)]
def sg_L_law_539 (LL : Nat) (xs : Nat → Int32) : jS := [(o_cv0 2 6 T_X6_count, 3)]
def sg_L_law_542 (LL : Nat) (xs : Nat → Int32) : jS := [(o_ifne 549, 3), (o_ic (1), 1), (o_goto 550, 3)]
def sg_L_law_549 (LL : Nat) (xs : Nat → Int32) : jS := [(o_ic (0), 1), (o_istore 3, 1)]
def sg_L_law_550 (LL : Nat) (xs : Nat → Int32) : jS := [(o_istore 3, 1)]
def sg_L_law_551 (LL : Nat) (xs : Nat → Int32) : jS := [(o_iload 3, 1), (o_ifeq 596, 3), (o_iload 5, 2), (o_ifeq 582, 3), (o_aload 1, 1), (o_iload 5, 2)]
def sg_L_law_563 (LL : Nat) (xs : Nat → Int32) : jS := [(o_cv0 2 6 T_X6_run, 3)]
def sg_L_law_566 (LL : Nat) (xs : Nat → Int32) : jS := [(o_iload 5, 2), (o_ifge 577, 3), (o_iload 5, 2), (o_ineg, 1), (o_goto 579, 3)]
def sg_L_law_577 (LL : Nat) (xs : Nat → Int32) : jS := [(o_iload 5, 2), (o_icne 596, 3)]
def sg_L_law_579 (LL : Nat) (xs : Nat → Int32) : jS := [(o_icne 596, 3)]
def sg_L_law_582 (LL : Nat) (xs : Nat → Int32) : jS := [(o_aload 1, 1)]
def sg_L_law_583 (LL : Nat) (xs : Nat → Int32) : jS := [(o_cv0 1 6 T_X6_digest, 3)]
def sg_L_law_586 (LL : Nat) (xs : Nat → Int32) : jS := [(o_lload 6, 2), (o_lcmp, 1), (o_ifne 596, 3), (o_ic (1), 1), (o_goto 597, 3)]
def sg_L_law_596 (LL : Nat) (xs : Nat → Int32) : jS := [(o_ic (0), 1)]
def cd_L_law (LL : Nat) (xs : Nat → Int32) : Nat → jS := fun t => match t with
  | 23 => sg_L_law_23 LL xs
  | 24 => sg_L_law_24 LL xs
  | 65 => sg_L_law_65 LL xs
  | 66 => sg_L_law_66 LL xs
  | 115 => sg_L_law_115 LL xs
  | 125 => sg_L_law_125 LL xs
  | 160 => sg_L_law_160 LL xs
  | 162 => sg_L_law_162 LL xs
  | 165 => sg_L_law_165 LL xs
  | 169 => sg_L_law_169 LL xs
  | 170 => sg_L_law_170 LL xs
  | 182 => sg_L_law_182 LL xs
  | 193 => sg_L_law_193 LL xs
  | 195 => sg_L_law_195 LL xs
  | 215 => sg_L_law_215 LL xs
  | 216 => sg_L_law_216 LL xs
  | 254 => sg_L_law_254 LL xs
  | 256 => sg_L_law_256 LL xs
  | 286 => sg_L_law_286 LL xs
  | 287 => sg_L_law_287 LL xs
  | 403 => sg_L_law_403 LL xs
  | 404 => sg_L_law_404 LL xs
  | 447 => sg_L_law_447 LL xs
  | 449 => sg_L_law_449 LL xs
  | 462 => sg_L_law_462 LL xs
  | 480 => sg_L_law_480 LL xs
  | 484 => sg_L_law_484 LL xs
  | 525 => sg_L_law_525 LL xs
  | 527 => sg_L_law_527 LL xs
  | 549 => sg_L_law_549 LL xs
  | 550 => sg_L_law_550 LL xs
  | 577 => sg_L_law_577 LL xs
  | 579 => sg_L_law_579 LL xs
  | 596 => sg_L_law_596 LL xs
  | _ => []
theorem wi_L_law_X6 : ∀ w ∈ u_ws RX6 TX6 9, w ∈ wsL_law := by decide +kernel
def E_L_law (LL : Nat) (xs : Nat → Int32) (Γ : jΓ) (Q : jPost) : Prop := Γ.2.2.2.2.2.2.2.2.2.2.1 = 12 ∧ Γ.2.2.2.2.2.2.2.2.2.2.2.1 = vwCl ∧ (∃ nm, jC Γ cL_law RL nm ret wsL_law 8 270 600000 7302250) ∧ True ∧ LL ≤ 260 ∧ ∃ b, jSc Γ b LL xs
theorem oo_L_law_0 {Γ : jΓ} {Q : jPost} {LL : Nat} {xs : Nat → Int32} (E : E_L_law LL xs Γ Q) : jSA Γ Q 0 (o_new 600000 7302250 6 jf_X6) 3 := by
  obtain ⟨nm, C⟩ := E.2.2.1
  exact so_new (ci := 6) (fs := jf_X6) C tyX6 tyX6_ok wi_L_law_X6 (by rw [E.2.1]; rfl) (by decide +kernel) (by decide +kernel) (by decide +kernel) rfl rfl (fun j hj => by match j, hj with | 0, _ => rfl | 1, _ => rfl | 2, _ => rfl | 3, _ => rfl | 4, _ => rfl | 5, _ => rfl | 6, _ => rfl | 7, _ => rfl | 8, _ => rfl | q + 9, z => exact absurd z (by omega)) dL_law_0
theorem oo_L_law_3 {Γ : jΓ} {Q : jPost} {LL : Nat} {xs : Nat → Int32} (E : E_L_law LL xs Γ Q) : jSA Γ Q 3 (o_dup) 1 := by
  obtain ⟨nm, C⟩ := E.2.2.1
  exact so_dup C dL_law_3
theorem oo_L_law_4 {Γ : jΓ} {Q : jPost} {LL : Nat} {xs : Nat → Int32} (E : E_L_law LL xs Γ Q) : jSA Γ Q 4 (o_callA 600000 7302250 1 36 231019 T_X6_init) 3 := by
  obtain ⟨nm, C⟩ := E.2.2.1
  exact so_callI C gL_law_X6_init (by decide +kernel) (by decide +kernel) (by decide +kernel) (by decide +kernel) (by decide +kernel) rfl (by rw [E.2.1]; exact m_X6_init _) (by decide) (by decide) dL_law_4
theorem oo_L_law_7 {Γ : jΓ} {Q : jPost} {LL : Nat} {xs : Nat → Int32} (E : E_L_law LL xs Γ Q) : jSA Γ Q 7 (o_astore 1) 1 := by
  obtain ⟨nm, C⟩ := E.2.2.1
  exact so_astore_n C rfl (by rw [E.1]; decide) dL_law_7
theorem oo_L_law_8 {Γ : jΓ} {Q : jPost} {LL : Nat} {xs : Nat → Int32} (E : E_L_law LL xs Γ Q) : jSA Γ Q 8 (o_aload 1) 1 := by
  obtain ⟨nm, C⟩ := E.2.2.1
  exact so_aload_n C rfl dL_law_8
theorem oo_L_law_9 {Γ : jΓ} {Q : jPost} {LL : Nat} {xs : Nat → Int32} (E : E_L_law LL xs Γ Q) : jSA Γ Q 9 (o_aload 0) 1 := by
  obtain ⟨nm, C⟩ := E.2.2.1
  exact so_aload_n C rfl dL_law_9
theorem oo_L_law_10 {Γ : jΓ} {Q : jPost} {LL : Nat} {xs : Nat → Int32} (E : E_L_law LL xs Γ Q) : jSA Γ Q 10 (o_call 2 (T_L_lays LL xs)) 3 := by
  obtain ⟨nm, C⟩ := E.2.2.1
  obtain ⟨b0, S⟩ := E.2.2.2.2.2
  exact so_callSS C S gL_law_L_lays (by decide +kernel) rfl (by rw [E.2.1]; exact m_L_lays _ E.2.2.2.2.1) (by decide) (by decide) dL_law_10
theorem oo_L_law_13 {Γ : jΓ} {Q : jPost} {LL : Nat} {xs : Nat → Int32} (E : E_L_law LL xs Γ Q) : jSA Γ Q 13 (o_istore 2) 1 := by
  obtain ⟨nm, C⟩ := E.2.2.1
  exact so_istore_n C rfl (by rw [E.1]; decide) dL_law_13
theorem oo_L_law_14 {Γ : jΓ} {Q : jPost} {LL : Nat} {xs : Nat → Int32} (E : E_L_law LL xs Γ Q) : jSA Γ Q 14 (o_iload 2) 1 := by
  obtain ⟨nm, C⟩ := E.2.2.1
  exact so_iload_n C rfl dL_law_14
theorem oo_L_law_15 {Γ : jΓ} {Q : jPost} {LL : Nat} {xs : Nat → Int32} (E : E_L_law LL xs Γ Q) : jSA Γ Q 15 (o_ic (1)) 1 := by
  obtain ⟨nm, C⟩ := E.2.2.1
  exact so_iconst C rfl dL_law_15
theorem oo_L_law_16 {Γ : jΓ} {Q : jPost} {LL : Nat} {xs : Nat → Int32} (E : E_L_law LL xs Γ Q) : jSA Γ Q 16 (o_icle 23) 3 := by
  obtain ⟨nm, C⟩ := E.2.2.1
  exact so_icle C (by decide) dL_law_16
theorem oo_L_law_19 {Γ : jΓ} {Q : jPost} {LL : Nat} {xs : Nat → Int32} (E : E_L_law LL xs Γ Q) : jSA Γ Q 19 (o_ic (1)) 1 := by
  obtain ⟨nm, C⟩ := E.2.2.1
  exact so_iconst C rfl dL_law_19
theorem oo_L_law_20 {Γ : jΓ} {Q : jPost} {LL : Nat} {xs : Nat → Int32} (E : E_L_law LL xs Γ Q) : jSA Γ Q 20 (o_goto 24) 3 := by
  obtain ⟨nm, C⟩ := E.2.2.1
  exact so_goto C (by decide) dL_law_20
theorem oo_L_law_23 {Γ : jΓ} {Q : jPost} {LL : Nat} {xs : Nat → Int32} (E : E_L_law LL xs Γ Q) : jSA Γ Q 23 (o_ic (0)) 1 := by
  obtain ⟨nm, C⟩ := E.2.2.1
  exact so_iconst C rfl dL_law_23
theorem oo_L_law_24 {Γ : jΓ} {Q : jPost} {LL : Nat} {xs : Nat → Int32} (E : E_L_law LL xs Γ Q) : jSA Γ Q 24 (o_istore 3) 1 := by
  obtain ⟨nm, C⟩ := E.2.2.1
  exact so_istore_n C rfl (by rw [E.1]; decide) dL_law_24
theorem oo_L_law_25 {Γ : jΓ} {Q : jPost} {LL : Nat} {xs : Nat → Int32} (E : E_L_law LL xs Γ Q) : jSA Γ Q 25 (o_new 600000 7302250 6 jf_X6) 3 := by
  obtain ⟨nm, C⟩ := E.2.2.1
  exact so_new (ci := 6) (fs := jf_X6) C tyX6 tyX6_ok wi_L_law_X6 (by rw [E.2.1]; rfl) (by decide +kernel) (by decide +kernel) (by decide +kernel) rfl rfl (fun j hj => by match j, hj with | 0, _ => rfl | 1, _ => rfl | 2, _ => rfl | 3, _ => rfl | 4, _ => rfl | 5, _ => rfl | 6, _ => rfl | 7, _ => rfl | 8, _ => rfl | q + 9, z => exact absurd z (by omega)) dL_law_25
theorem oo_L_law_28 {Γ : jΓ} {Q : jPost} {LL : Nat} {xs : Nat → Int32} (E : E_L_law LL xs Γ Q) : jSA Γ Q 28 (o_dup) 1 := by
  obtain ⟨nm, C⟩ := E.2.2.1
  exact so_dup C dL_law_28
theorem oo_L_law_29 {Γ : jΓ} {Q : jPost} {LL : Nat} {xs : Nat → Int32} (E : E_L_law LL xs Γ Q) : jSA Γ Q 29 (o_ct1 600000 7302250 36 231019 T_X6_init) 3 := by
  obtain ⟨nm, C⟩ := E.2.2.1
  exact so_ct1 C gL_law_X6_init (by decide +kernel) (by decide +kernel) (by decide +kernel) (by decide +kernel) (by decide +kernel) rfl (by rw [E.2.1]; exact m_X6_init _) (by decide) (by decide) dL_law_29
theorem oo_L_law_32 {Γ : jΓ} {Q : jPost} {LL : Nat} {xs : Nat → Int32} (E : E_L_law LL xs Γ Q) : jSA Γ Q 32 (o_astore 4) 2 := by
  obtain ⟨nm, C⟩ := E.2.2.1
  exact so_astore C (by rw [E.1]; decide) dL_law_32
theorem oo_L_law_34 {Γ : jΓ} {Q : jPost} {LL : Nat} {xs : Nat → Int32} (E : E_L_law LL xs Γ Q) : jSA Γ Q 34 (o_iload 3) 1 := by
  obtain ⟨nm, C⟩ := E.2.2.1
  exact so_iload_n C rfl dL_law_34
theorem oo_L_law_35 {Γ : jΓ} {Q : jPost} {LL : Nat} {xs : Nat → Int32} (E : E_L_law LL xs Γ Q) : jSA Γ Q 35 (o_ifeq 65) 3 := by
  obtain ⟨nm, C⟩ := E.2.2.1
  exact so_ifeq C (by decide) dL_law_35
theorem oo_L_law_38 {Γ : jΓ} {Q : jPost} {LL : Nat} {xs : Nat → Int32} (E : E_L_law LL xs Γ Q) : jSA Γ Q 38 (o_aload 4) 2 := by
  obtain ⟨nm, C⟩ := E.2.2.1
  exact so_aload C dL_law_38
theorem oo_L_law_40 {Γ : jΓ} {Q : jPost} {LL : Nat} {xs : Nat → Int32} (E : E_L_law LL xs Γ Q) : jSA Γ Q 40 (o_aload 0) 1 := by
  obtain ⟨nm, C⟩ := E.2.2.1
  exact so_aload_n C rfl dL_law_40
theorem oo_L_law_41 {Γ : jΓ} {Q : jPost} {LL : Nat} {xs : Nat → Int32} (E : E_L_law LL xs Γ Q) : jSA Γ Q 41 (o_sS1 (T_L_lays LL xs)) 3 := by
  obtain ⟨nm, C⟩ := E.2.2.1
  obtain ⟨b0, S⟩ := E.2.2.2.2.2
  exact so_sS1 C S gL_law_L_lays (by decide +kernel) rfl (by rw [E.2.1]; exact m_L_lays _ E.2.2.2.2.1) (by decide) (by decide) dL_law_41
theorem oo_L_law_44 {Γ : jΓ} {Q : jPost} {LL : Nat} {xs : Nat → Int32} (E : E_L_law LL xs Γ Q) : jSA Γ Q 44 (o_iload 2) 1 := by
  obtain ⟨nm, C⟩ := E.2.2.1
  exact so_iload_n C rfl dL_law_44
theorem oo_L_law_45 {Γ : jΓ} {Q : jPost} {LL : Nat} {xs : Nat → Int32} (E : E_L_law LL xs Γ Q) : jSA Γ Q 45 (o_icne 65) 3 := by
  obtain ⟨nm, C⟩ := E.2.2.1
  exact so_icne C (by decide) dL_law_45
theorem oo_L_law_48 {Γ : jΓ} {Q : jPost} {LL : Nat} {xs : Nat → Int32} (E : E_L_law LL xs Γ Q) : jSA Γ Q 48 (o_aload 4) 2 := by
  obtain ⟨nm, C⟩ := E.2.2.1
  exact so_aload C dL_law_48
theorem oo_L_law_50 {Γ : jΓ} {Q : jPost} {LL : Nat} {xs : Nat → Int32} (E : E_L_law LL xs Γ Q) : jSA Γ Q 50 (o_cv1 1 6 T_X6_digest) 3 := by
  obtain ⟨nm, C⟩ := E.2.2.1
  exact so_cv1 C (ci := 6) (by rw [E.2.1]; rfl) gL_law_X6_digest (by decide +kernel) rfl (by rw [E.2.1]; exact m_X6_digest _) (by decide) (by decide) dL_law_50
theorem oo_L_law_53 {Γ : jΓ} {Q : jPost} {LL : Nat} {xs : Nat → Int32} (E : E_L_law LL xs Γ Q) : jSA Γ Q 53 (o_aload 1) 1 := by
  obtain ⟨nm, C⟩ := E.2.2.1
  exact so_aload_n C rfl dL_law_53
theorem oo_L_law_54 {Γ : jΓ} {Q : jPost} {LL : Nat} {xs : Nat → Int32} (E : E_L_law LL xs Γ Q) : jSA Γ Q 54 (o_cv0 1 6 T_X6_digest) 3 := by
  obtain ⟨nm, C⟩ := E.2.2.1
  exact so_cv0 C (ci := 6) (by rw [E.2.1]; rfl) gL_law_X6_digest (by decide +kernel) rfl (by rw [E.2.1]; exact m_X6_digest _) (by decide) (by decide) dL_law_54
theorem oo_L_law_57 {Γ : jΓ} {Q : jPost} {LL : Nat} {xs : Nat → Int32} (E : E_L_law LL xs Γ Q) : jSA Γ Q 57 (o_lcmp) 1 := by
  obtain ⟨nm, C⟩ := E.2.2.1
  exact so_lcmp C dL_law_57
theorem oo_L_law_58 {Γ : jΓ} {Q : jPost} {LL : Nat} {xs : Nat → Int32} (E : E_L_law LL xs Γ Q) : jSA Γ Q 58 (o_ifne 65) 3 := by
  obtain ⟨nm, C⟩ := E.2.2.1
  exact so_ifne C (by decide) dL_law_58
theorem oo_L_law_61 {Γ : jΓ} {Q : jPost} {LL : Nat} {xs : Nat → Int32} (E : E_L_law LL xs Γ Q) : jSA Γ Q 61 (o_ic (1)) 1 := by
  obtain ⟨nm, C⟩ := E.2.2.1
  exact so_iconst C rfl dL_law_61
theorem oo_L_law_62 {Γ : jΓ} {Q : jPost} {LL : Nat} {xs : Nat → Int32} (E : E_L_law LL xs Γ Q) : jSA Γ Q 62 (o_goto 66) 3 := by
  obtain ⟨nm, C⟩ := E.2.2.1
  exact so_goto C (by decide) dL_law_62
theorem oo_L_law_65 {Γ : jΓ} {Q : jPost} {LL : Nat} {xs : Nat → Int32} (E : E_L_law LL xs Γ Q) : jSA Γ Q 65 (o_ic (0)) 1 := by
  obtain ⟨nm, C⟩ := E.2.2.1
  exact so_iconst C rfl dL_law_65
theorem oo_L_law_66 {Γ : jΓ} {Q : jPost} {LL : Nat} {xs : Nat → Int32} (E : E_L_law LL xs Γ Q) : jSA Γ Q 66 (o_istore 3) 1 := by
  obtain ⟨nm, C⟩ := E.2.2.1
  exact so_istore_n C rfl (by rw [E.1]; decide) dL_law_66
theorem oo_L_law_67 {Γ : jΓ} {Q : jPost} {LL : Nat} {xs : Nat → Int32} (E : E_L_law LL xs Γ Q) : jSA Γ Q 67 (o_ic (0)) 1 := by
  obtain ⟨nm, C⟩ := E.2.2.1
  exact so_iconst C rfl dL_law_67
theorem oo_L_law_68 {Γ : jΓ} {Q : jPost} {LL : Nat} {xs : Nat → Int32} (E : E_L_law LL xs Γ Q) : jSA Γ Q 68 (o_istore 5) 2 := by
  obtain ⟨nm, C⟩ := E.2.2.1
  exact so_istore C (by rw [E.1]; decide) dL_law_68
theorem oo_L_law_70 {Γ : jΓ} {Q : jPost} {LL : Nat} {xs : Nat → Int32} (E : E_L_law LL xs Γ Q) : jSA Γ Q 70 (o_ic (0)) 1 := by
  obtain ⟨nm, C⟩ := E.2.2.1
  exact so_iconst C rfl dL_law_70
theorem oo_L_law_71 {Γ : jΓ} {Q : jPost} {LL : Nat} {xs : Nat → Int32} (E : E_L_law LL xs Γ Q) : jSA Γ Q 71 (o_istore 6) 2 := by
  obtain ⟨nm, C⟩ := E.2.2.1
  exact so_istore C (by rw [E.1]; decide) dL_law_71
theorem oo_L_law_73 {Γ : jΓ} {Q : jPost} {LL : Nat} {xs : Nat → Int32} (E : E_L_law LL xs Γ Q) : jSA Γ Q 73 (o_iload 6) 2 := by
  obtain ⟨nm, C⟩ := E.2.2.1
  exact so_iload C dL_law_73
theorem oo_L_law_75 {Γ : jΓ} {Q : jPost} {LL : Nat} {xs : Nat → Int32} (E : E_L_law LL xs Γ Q) : jSA Γ Q 75 (o_ic (9)) 2 := by
  obtain ⟨nm, C⟩ := E.2.2.1
  exact so_bipush C rfl dL_law_75
theorem oo_L_law_77 {Γ : jΓ} {Q : jPost} {LL : Nat} {xs : Nat → Int32} (E : E_L_law LL xs Γ Q) : jSA Γ Q 77 (o_icge 492) 3 := by
  obtain ⟨nm, C⟩ := E.2.2.1
  exact so_icge C (by decide) dL_law_77
theorem oo_L_law_80 {Γ : jΓ} {Q : jPost} {LL : Nat} {xs : Nat → Int32} (E : E_L_law LL xs Γ Q) : jSA Γ Q 80 (o_iload 3) 1 := by
  obtain ⟨nm, C⟩ := E.2.2.1
  exact so_iload_n C rfl dL_law_80
theorem oo_L_law_81 {Γ : jΓ} {Q : jPost} {LL : Nat} {xs : Nat → Int32} (E : E_L_law LL xs Γ Q) : jSA Γ Q 81 (o_ifeq 492) 3 := by
  obtain ⟨nm, C⟩ := E.2.2.1
  exact so_ifeq C (by decide) dL_law_81
theorem oo_L_law_84 {Γ : jΓ} {Q : jPost} {LL : Nat} {xs : Nat → Int32} (E : E_L_law LL xs Γ Q) : jSA Γ Q 84 (o_aload 0) 1 := by
  obtain ⟨nm, C⟩ := E.2.2.1
  exact so_aload_n C rfl dL_law_84
theorem oo_L_law_85 {Γ : jΓ} {Q : jPost} {LL : Nat} {xs : Nat → Int32} (E : E_L_law LL xs Γ Q) : jSA Γ Q 85 (o_ic (30)) 2 := by
  obtain ⟨nm, C⟩ := E.2.2.1
  exact so_bipush C rfl dL_law_85
theorem oo_L_law_87 {Γ : jΓ} {Q : jPost} {LL : Nat} {xs : Nat → Int32} (E : E_L_law LL xs Γ Q) : jSA Γ Q 87 (o_iload 6) 2 := by
  obtain ⟨nm, C⟩ := E.2.2.1
  exact so_iload C dL_law_87
theorem oo_L_law_89 {Γ : jΓ} {Q : jPost} {LL : Nat} {xs : Nat → Int32} (E : E_L_law LL xs Γ Q) : jSA Γ Q 89 (o_iadd) 1 := by
  obtain ⟨nm, C⟩ := E.2.2.1
  exact so_iadd C dL_law_89
theorem oo_L_law_90 {Γ : jΓ} {Q : jPost} {LL : Nat} {xs : Nat → Int32} (E : E_L_law LL xs Γ Q) : jSA Γ Q 90 (o_call 2 (T_L_cell LL xs)) 3 := by
  obtain ⟨nm, C⟩ := E.2.2.1
  obtain ⟨b0, S⟩ := E.2.2.2.2.2
  exact so_callSS C S gL_law_L_cell (by decide +kernel) rfl (by rw [E.2.1]; exact m_L_cell _ E.2.2.2.2.1) (by decide) (by decide) dL_law_90
theorem oo_L_law_93 {Γ : jΓ} {Q : jPost} {LL : Nat} {xs : Nat → Int32} (E : E_L_law LL xs Γ Q) : jSA Γ Q 93 (o_istore 7) 2 := by
  obtain ⟨nm, C⟩ := E.2.2.1
  exact so_istore C (by rw [E.1]; decide) dL_law_93
theorem oo_L_law_95 {Γ : jΓ} {Q : jPost} {LL : Nat} {xs : Nat → Int32} (E : E_L_law LL xs Γ Q) : jSA Γ Q 95 (o_iload 7) 2 := by
  obtain ⟨nm, C⟩ := E.2.2.1
  exact so_iload C dL_law_95
theorem oo_L_law_97 {Γ : jΓ} {Q : jPost} {LL : Nat} {xs : Nat → Int32} (E : E_L_law LL xs Γ Q) : jSA Γ Q 97 (o_ic (1)) 1 := by
  obtain ⟨nm, C⟩ := E.2.2.1
  exact so_iconst C rfl dL_law_97
theorem oo_L_law_98 {Γ : jΓ} {Q : jPost} {LL : Nat} {xs : Nat → Int32} (E : E_L_law LL xs Γ Q) : jSA Γ Q 98 (o_iand) 1 := by
  obtain ⟨nm, C⟩ := E.2.2.1
  exact so_iand C dL_law_98
theorem oo_L_law_99 {Γ : jΓ} {Q : jPost} {LL : Nat} {xs : Nat → Int32} (E : E_L_law LL xs Γ Q) : jSA Γ Q 99 (o_ifne 115) 3 := by
  obtain ⟨nm, C⟩ := E.2.2.1
  exact so_ifne C (by decide) dL_law_99
theorem oo_L_law_102 {Γ : jΓ} {Q : jPost} {LL : Nat} {xs : Nat → Int32} (E : E_L_law LL xs Γ Q) : jSA Γ Q 102 (o_ic (1)) 1 := by
  obtain ⟨nm, C⟩ := E.2.2.1
  exact so_iconst C rfl dL_law_102
theorem oo_L_law_103 {Γ : jΓ} {Q : jPost} {LL : Nat} {xs : Nat → Int32} (E : E_L_law LL xs Γ Q) : jSA Γ Q 103 (o_iload 7) 2 := by
  obtain ⟨nm, C⟩ := E.2.2.1
  exact so_iload C dL_law_103
theorem oo_L_law_105 {Γ : jΓ} {Q : jPost} {LL : Nat} {xs : Nat → Int32} (E : E_L_law LL xs Γ Q) : jSA Γ Q 105 (o_ic (1)) 1 := by
  obtain ⟨nm, C⟩ := E.2.2.1
  exact so_iconst C rfl dL_law_105
theorem oo_L_law_106 {Γ : jΓ} {Q : jPost} {LL : Nat} {xs : Nat → Int32} (E : E_L_law LL xs Γ Q) : jSA Γ Q 106 (o_ishr) 1 := by
  obtain ⟨nm, C⟩ := E.2.2.1
  exact so_ishr C dL_law_106
theorem oo_L_law_107 {Γ : jΓ} {Q : jPost} {LL : Nat} {xs : Nat → Int32} (E : E_L_law LL xs Γ Q) : jSA Γ Q 107 (o_ic (160)) 3 := by
  obtain ⟨nm, C⟩ := E.2.2.1
  exact so_sipush C rfl dL_law_107
theorem oo_L_law_110 {Γ : jΓ} {Q : jPost} {LL : Nat} {xs : Nat → Int32} (E : E_L_law LL xs Γ Q) : jSA Γ Q 110 (o_irem) 1 := by
  obtain ⟨nm, C⟩ := E.2.2.1
  exact so_irem C dL_law_110
theorem oo_L_law_111 {Γ : jΓ} {Q : jPost} {LL : Nat} {xs : Nat → Int32} (E : E_L_law LL xs Γ Q) : jSA Γ Q 111 (o_iadd) 1 := by
  obtain ⟨nm, C⟩ := E.2.2.1
  exact so_iadd C dL_law_111
theorem oo_L_law_112 {Γ : jΓ} {Q : jPost} {LL : Nat} {xs : Nat → Int32} (E : E_L_law LL xs Γ Q) : jSA Γ Q 112 (o_goto 125) 3 := by
  obtain ⟨nm, C⟩ := E.2.2.1
  exact so_goto C (by decide) dL_law_112
theorem oo_L_law_115 {Γ : jΓ} {Q : jPost} {LL : Nat} {xs : Nat → Int32} (E : E_L_law LL xs Γ Q) : jSA Γ Q 115 (o_ic (-1)) 1 := by
  obtain ⟨nm, C⟩ := E.2.2.1
  exact so_iconst C rfl dL_law_115
theorem oo_L_law_116 {Γ : jΓ} {Q : jPost} {LL : Nat} {xs : Nat → Int32} (E : E_L_law LL xs Γ Q) : jSA Γ Q 116 (o_iload 7) 2 := by
  obtain ⟨nm, C⟩ := E.2.2.1
  exact so_iload C dL_law_116
theorem oo_L_law_118 {Γ : jΓ} {Q : jPost} {LL : Nat} {xs : Nat → Int32} (E : E_L_law LL xs Γ Q) : jSA Γ Q 118 (o_ic (1)) 1 := by
  obtain ⟨nm, C⟩ := E.2.2.1
  exact so_iconst C rfl dL_law_118
theorem oo_L_law_119 {Γ : jΓ} {Q : jPost} {LL : Nat} {xs : Nat → Int32} (E : E_L_law LL xs Γ Q) : jSA Γ Q 119 (o_ishr) 1 := by
  obtain ⟨nm, C⟩ := E.2.2.1
  exact so_ishr C dL_law_119
theorem oo_L_law_120 {Γ : jΓ} {Q : jPost} {LL : Nat} {xs : Nat → Int32} (E : E_L_law LL xs Γ Q) : jSA Γ Q 120 (o_ic (160)) 3 := by
  obtain ⟨nm, C⟩ := E.2.2.1
  exact so_sipush C rfl dL_law_120
theorem oo_L_law_123 {Γ : jΓ} {Q : jPost} {LL : Nat} {xs : Nat → Int32} (E : E_L_law LL xs Γ Q) : jSA Γ Q 123 (o_irem) 1 := by
  obtain ⟨nm, C⟩ := E.2.2.1
  exact so_irem C dL_law_123
theorem oo_L_law_124 {Γ : jΓ} {Q : jPost} {LL : Nat} {xs : Nat → Int32} (E : E_L_law LL xs Γ Q) : jSA Γ Q 124 (o_isub) 1 := by
  obtain ⟨nm, C⟩ := E.2.2.1
  exact so_isub C dL_law_124
theorem oo_L_law_125 {Γ : jΓ} {Q : jPost} {LL : Nat} {xs : Nat → Int32} (E : E_L_law LL xs Γ Q) : jSA Γ Q 125 (o_istore 8) 2 := by
  obtain ⟨nm, C⟩ := E.2.2.1
  exact so_istore C (by rw [E.1]; decide) dL_law_125
theorem oo_L_law_127 {Γ : jΓ} {Q : jPost} {LL : Nat} {xs : Nat → Int32} (E : E_L_law LL xs Γ Q) : jSA Γ Q 127 (o_aload 1) 1 := by
  obtain ⟨nm, C⟩ := E.2.2.1
  exact so_aload_n C rfl dL_law_127
theorem oo_L_law_128 {Γ : jΓ} {Q : jPost} {LL : Nat} {xs : Nat → Int32} (E : E_L_law LL xs Γ Q) : jSA Γ Q 128 (o_iload 8) 2 := by
  obtain ⟨nm, C⟩ := E.2.2.1
  exact so_iload C dL_law_128
theorem oo_L_law_130 {Γ : jΓ} {Q : jPost} {LL : Nat} {xs : Nat → Int32} (E : E_L_law LL xs Γ Q) : jSA Γ Q 130 (o_cv0 2 6 T_X6_run) 3 := by
  obtain ⟨nm, C⟩ := E.2.2.1
  exact so_cv0 C (ci := 6) (by rw [E.2.1]; rfl) gL_law_X6_run (by decide +kernel) rfl (by rw [E.2.1]; exact m_X6_run _) (by decide) (by decide) dL_law_130
theorem oo_L_law_133 {Γ : jΓ} {Q : jPost} {LL : Nat} {xs : Nat → Int32} (E : E_L_law LL xs Γ Q) : jSA Γ Q 133 (o_istore 9) 2 := by
  obtain ⟨nm, C⟩ := E.2.2.1
  exact so_istore C (by rw [E.1]; decide) dL_law_133
theorem oo_L_law_135 {Γ : jΓ} {Q : jPost} {LL : Nat} {xs : Nat → Int32} (E : E_L_law LL xs Γ Q) : jSA Γ Q 135 (o_iload 9) 2 := by
  obtain ⟨nm, C⟩ := E.2.2.1
  exact so_iload C dL_law_135
theorem oo_L_law_137 {Γ : jΓ} {Q : jPost} {LL : Nat} {xs : Nat → Int32} (E : E_L_law LL xs Γ Q) : jSA Γ Q 137 (o_ic (-4)) 2 := by
  obtain ⟨nm, C⟩ := E.2.2.1
  exact so_bipush C rfl dL_law_137
theorem oo_L_law_139 {Γ : jΓ} {Q : jPost} {LL : Nat} {xs : Nat → Int32} (E : E_L_law LL xs Γ Q) : jSA Γ Q 139 (o_iceq 165) 3 := by
  obtain ⟨nm, C⟩ := E.2.2.1
  exact so_iceq C (by decide) dL_law_139
theorem oo_L_law_142 {Γ : jΓ} {Q : jPost} {LL : Nat} {xs : Nat → Int32} (E : E_L_law LL xs Γ Q) : jSA Γ Q 142 (o_iload 9) 2 := by
  obtain ⟨nm, C⟩ := E.2.2.1
  exact so_iload C dL_law_142
theorem oo_L_law_144 {Γ : jΓ} {Q : jPost} {LL : Nat} {xs : Nat → Int32} (E : E_L_law LL xs Γ Q) : jSA Γ Q 144 (o_ifle 169) 3 := by
  obtain ⟨nm, C⟩ := E.2.2.1
  exact so_ifle C (by decide) dL_law_144
theorem oo_L_law_147 {Γ : jΓ} {Q : jPost} {LL : Nat} {xs : Nat → Int32} (E : E_L_law LL xs Γ Q) : jSA Γ Q 147 (o_iload 9) 2 := by
  obtain ⟨nm, C⟩ := E.2.2.1
  exact so_iload C dL_law_147
theorem oo_L_law_149 {Γ : jΓ} {Q : jPost} {LL : Nat} {xs : Nat → Int32} (E : E_L_law LL xs Γ Q) : jSA Γ Q 149 (o_iload 8) 2 := by
  obtain ⟨nm, C⟩ := E.2.2.1
  exact so_iload C dL_law_149
theorem oo_L_law_151 {Γ : jΓ} {Q : jPost} {LL : Nat} {xs : Nat → Int32} (E : E_L_law LL xs Γ Q) : jSA Γ Q 151 (o_ifge 160) 3 := by
  obtain ⟨nm, C⟩ := E.2.2.1
  exact so_ifge C (by decide) dL_law_151
theorem oo_L_law_154 {Γ : jΓ} {Q : jPost} {LL : Nat} {xs : Nat → Int32} (E : E_L_law LL xs Γ Q) : jSA Γ Q 154 (o_iload 8) 2 := by
  obtain ⟨nm, C⟩ := E.2.2.1
  exact so_iload C dL_law_154
theorem oo_L_law_156 {Γ : jΓ} {Q : jPost} {LL : Nat} {xs : Nat → Int32} (E : E_L_law LL xs Γ Q) : jSA Γ Q 156 (o_ineg) 1 := by
  obtain ⟨nm, C⟩ := E.2.2.1
  exact so_ineg C dL_law_156
theorem oo_L_law_157 {Γ : jΓ} {Q : jPost} {LL : Nat} {xs : Nat → Int32} (E : E_L_law LL xs Γ Q) : jSA Γ Q 157 (o_goto 162) 3 := by
  obtain ⟨nm, C⟩ := E.2.2.1
  exact so_goto C (by decide) dL_law_157
theorem oo_L_law_160 {Γ : jΓ} {Q : jPost} {LL : Nat} {xs : Nat → Int32} (E : E_L_law LL xs Γ Q) : jSA Γ Q 160 (o_iload 8) 2 := by
  obtain ⟨nm, C⟩ := E.2.2.1
  exact so_iload C dL_law_160
theorem oo_L_law_162 {Γ : jΓ} {Q : jPost} {LL : Nat} {xs : Nat → Int32} (E : E_L_law LL xs Γ Q) : jSA Γ Q 162 (o_icgt 169) 3 := by
  obtain ⟨nm, C⟩ := E.2.2.1
  exact so_icgt C (by decide) dL_law_162
theorem oo_L_law_165 {Γ : jΓ} {Q : jPost} {LL : Nat} {xs : Nat → Int32} (E : E_L_law LL xs Γ Q) : jSA Γ Q 165 (o_ic (1)) 1 := by
  obtain ⟨nm, C⟩ := E.2.2.1
  exact so_iconst C rfl dL_law_165
theorem oo_L_law_166 {Γ : jΓ} {Q : jPost} {LL : Nat} {xs : Nat → Int32} (E : E_L_law LL xs Γ Q) : jSA Γ Q 166 (o_goto 170) 3 := by
  obtain ⟨nm, C⟩ := E.2.2.1
  exact so_goto C (by decide) dL_law_166
theorem oo_L_law_169 {Γ : jΓ} {Q : jPost} {LL : Nat} {xs : Nat → Int32} (E : E_L_law LL xs Γ Q) : jSA Γ Q 169 (o_ic (0)) 1 := by
  obtain ⟨nm, C⟩ := E.2.2.1
  exact so_iconst C rfl dL_law_169
theorem oo_L_law_170 {Γ : jΓ} {Q : jPost} {LL : Nat} {xs : Nat → Int32} (E : E_L_law LL xs Γ Q) : jSA Γ Q 170 (o_istore 3) 1 := by
  obtain ⟨nm, C⟩ := E.2.2.1
  exact so_istore_n C rfl (by rw [E.1]; decide) dL_law_170
theorem oo_L_law_171 {Γ : jΓ} {Q : jPost} {LL : Nat} {xs : Nat → Int32} (E : E_L_law LL xs Γ Q) : jSA Γ Q 171 (o_iload 5) 2 := by
  obtain ⟨nm, C⟩ := E.2.2.1
  exact so_iload C dL_law_171
theorem oo_L_law_173 {Γ : jΓ} {Q : jPost} {LL : Nat} {xs : Nat → Int32} (E : E_L_law LL xs Γ Q) : jSA Γ Q 173 (o_iload 9) 2 := by
  obtain ⟨nm, C⟩ := E.2.2.1
  exact so_iload C dL_law_173
theorem oo_L_law_175 {Γ : jΓ} {Q : jPost} {LL : Nat} {xs : Nat → Int32} (E : E_L_law LL xs Γ Q) : jSA Γ Q 175 (o_ifge 182) 3 := by
  obtain ⟨nm, C⟩ := E.2.2.1
  exact so_ifge C (by decide) dL_law_175
theorem oo_L_law_178 {Γ : jΓ} {Q : jPost} {LL : Nat} {xs : Nat → Int32} (E : E_L_law LL xs Γ Q) : jSA Γ Q 178 (o_ic (0)) 1 := by
  obtain ⟨nm, C⟩ := E.2.2.1
  exact so_iconst C rfl dL_law_178
theorem oo_L_law_179 {Γ : jΓ} {Q : jPost} {LL : Nat} {xs : Nat → Int32} (E : E_L_law LL xs Γ Q) : jSA Γ Q 179 (o_goto 195) 3 := by
  obtain ⟨nm, C⟩ := E.2.2.1
  exact so_goto C (by decide) dL_law_179
theorem oo_L_law_182 {Γ : jΓ} {Q : jPost} {LL : Nat} {xs : Nat → Int32} (E : E_L_law LL xs Γ Q) : jSA Γ Q 182 (o_iload 8) 2 := by
  obtain ⟨nm, C⟩ := E.2.2.1
  exact so_iload C dL_law_182
theorem oo_L_law_184 {Γ : jΓ} {Q : jPost} {LL : Nat} {xs : Nat → Int32} (E : E_L_law LL xs Γ Q) : jSA Γ Q 184 (o_ifge 193) 3 := by
  obtain ⟨nm, C⟩ := E.2.2.1
  exact so_ifge C (by decide) dL_law_184
theorem oo_L_law_187 {Γ : jΓ} {Q : jPost} {LL : Nat} {xs : Nat → Int32} (E : E_L_law LL xs Γ Q) : jSA Γ Q 187 (o_iload 9) 2 := by
  obtain ⟨nm, C⟩ := E.2.2.1
  exact so_iload C dL_law_187
theorem oo_L_law_189 {Γ : jΓ} {Q : jPost} {LL : Nat} {xs : Nat → Int32} (E : E_L_law LL xs Γ Q) : jSA Γ Q 189 (o_ineg) 1 := by
  obtain ⟨nm, C⟩ := E.2.2.1
  exact so_ineg C dL_law_189
theorem oo_L_law_190 {Γ : jΓ} {Q : jPost} {LL : Nat} {xs : Nat → Int32} (E : E_L_law LL xs Γ Q) : jSA Γ Q 190 (o_goto 195) 3 := by
  obtain ⟨nm, C⟩ := E.2.2.1
  exact so_goto C (by decide) dL_law_190
theorem oo_L_law_193 {Γ : jΓ} {Q : jPost} {LL : Nat} {xs : Nat → Int32} (E : E_L_law LL xs Γ Q) : jSA Γ Q 193 (o_iload 9) 2 := by
  obtain ⟨nm, C⟩ := E.2.2.1
  exact so_iload C dL_law_193
theorem oo_L_law_195 {Γ : jΓ} {Q : jPost} {LL : Nat} {xs : Nat → Int32} (E : E_L_law LL xs Γ Q) : jSA Γ Q 195 (o_iadd) 1 := by
  obtain ⟨nm, C⟩ := E.2.2.1
  exact so_iadd C dL_law_195
theorem oo_L_law_196 {Γ : jΓ} {Q : jPost} {LL : Nat} {xs : Nat → Int32} (E : E_L_law LL xs Γ Q) : jSA Γ Q 196 (o_istore 5) 2 := by
  obtain ⟨nm, C⟩ := E.2.2.1
  exact so_istore C (by rw [E.1]; decide) dL_law_196
theorem oo_L_law_198 {Γ : jΓ} {Q : jPost} {LL : Nat} {xs : Nat → Int32} (E : E_L_law LL xs Γ Q) : jSA Γ Q 198 (o_iload 3) 1 := by
  obtain ⟨nm, C⟩ := E.2.2.1
  exact so_iload_n C rfl dL_law_198
theorem oo_L_law_199 {Γ : jΓ} {Q : jPost} {LL : Nat} {xs : Nat → Int32} (E : E_L_law LL xs Γ Q) : jSA Γ Q 199 (o_ifeq 215) 3 := by
  obtain ⟨nm, C⟩ := E.2.2.1
  exact so_ifeq C (by decide) dL_law_199
theorem oo_L_law_202 {Γ : jΓ} {Q : jPost} {LL : Nat} {xs : Nat → Int32} (E : E_L_law LL xs Γ Q) : jSA Γ Q 202 (o_aload 1) 1 := by
  obtain ⟨nm, C⟩ := E.2.2.1
  exact so_aload_n C rfl dL_law_202
theorem oo_L_law_203 {Γ : jΓ} {Q : jPost} {LL : Nat} {xs : Nat → Int32} (E : E_L_law LL xs Γ Q) : jSA Γ Q 203 (o_cv0 1 6 T_X6_time) 3 := by
  obtain ⟨nm, C⟩ := E.2.2.1
  exact so_cv0 C (ci := 6) (by rw [E.2.1]; rfl) gL_law_X6_time (by decide +kernel) rfl (by rw [E.2.1]; exact m_X6_time _) (by decide) (by decide) dL_law_203
theorem oo_L_law_206 {Γ : jΓ} {Q : jPost} {LL : Nat} {xs : Nat → Int32} (E : E_L_law LL xs Γ Q) : jSA Γ Q 206 (o_iload 5) 2 := by
  obtain ⟨nm, C⟩ := E.2.2.1
  exact so_iload C dL_law_206
theorem oo_L_law_208 {Γ : jΓ} {Q : jPost} {LL : Nat} {xs : Nat → Int32} (E : E_L_law LL xs Γ Q) : jSA Γ Q 208 (o_icne 215) 3 := by
  obtain ⟨nm, C⟩ := E.2.2.1
  exact so_icne C (by decide) dL_law_208
theorem oo_L_law_211 {Γ : jΓ} {Q : jPost} {LL : Nat} {xs : Nat → Int32} (E : E_L_law LL xs Γ Q) : jSA Γ Q 211 (o_ic (1)) 1 := by
  obtain ⟨nm, C⟩ := E.2.2.1
  exact so_iconst C rfl dL_law_211
theorem oo_L_law_212 {Γ : jΓ} {Q : jPost} {LL : Nat} {xs : Nat → Int32} (E : E_L_law LL xs Γ Q) : jSA Γ Q 212 (o_goto 216) 3 := by
  obtain ⟨nm, C⟩ := E.2.2.1
  exact so_goto C (by decide) dL_law_212
theorem oo_L_law_215 {Γ : jΓ} {Q : jPost} {LL : Nat} {xs : Nat → Int32} (E : E_L_law LL xs Γ Q) : jSA Γ Q 215 (o_ic (0)) 1 := by
  obtain ⟨nm, C⟩ := E.2.2.1
  exact so_iconst C rfl dL_law_215
theorem oo_L_law_216 {Γ : jΓ} {Q : jPost} {LL : Nat} {xs : Nat → Int32} (E : E_L_law LL xs Γ Q) : jSA Γ Q 216 (o_istore 3) 1 := by
  obtain ⟨nm, C⟩ := E.2.2.1
  exact so_istore_n C rfl (by rw [E.1]; decide) dL_law_216
theorem oo_L_law_217 {Γ : jΓ} {Q : jPost} {LL : Nat} {xs : Nat → Int32} (E : E_L_law LL xs Γ Q) : jSA Γ Q 217 (o_iload 5) 2 := by
  obtain ⟨nm, C⟩ := E.2.2.1
  exact so_iload C dL_law_217
theorem oo_L_law_219 {Γ : jΓ} {Q : jPost} {LL : Nat} {xs : Nat → Int32} (E : E_L_law LL xs Γ Q) : jSA Γ Q 219 (o_aload 4) 2 := by
  obtain ⟨nm, C⟩ := E.2.2.1
  exact so_aload C dL_law_219
theorem oo_L_law_221 {Γ : jΓ} {Q : jPost} {LL : Nat} {xs : Nat → Int32} (E : E_L_law LL xs Γ Q) : jSA Γ Q 221 (o_cv1 1 6 T_X6_time) 3 := by
  obtain ⟨nm, C⟩ := E.2.2.1
  exact so_cv1 C (ci := 6) (by rw [E.2.1]; rfl) gL_law_X6_time (by decide +kernel) rfl (by rw [E.2.1]; exact m_X6_time _) (by decide) (by decide) dL_law_221
theorem oo_L_law_224 {Γ : jΓ} {Q : jPost} {LL : Nat} {xs : Nat → Int32} (E : E_L_law LL xs Γ Q) : jSA Γ Q 224 (o_isub) 1 := by
  obtain ⟨nm, C⟩ := E.2.2.1
  exact so_isub C dL_law_224
theorem oo_L_law_225 {Γ : jΓ} {Q : jPost} {LL : Nat} {xs : Nat → Int32} (E : E_L_law LL xs Γ Q) : jSA Γ Q 225 (o_istore 10) 2 := by
  obtain ⟨nm, C⟩ := E.2.2.1
  exact so_istore C (by rw [E.1]; decide) dL_law_225
theorem oo_L_law_227 {Γ : jΓ} {Q : jPost} {LL : Nat} {xs : Nat → Int32} (E : E_L_law LL xs Γ Q) : jSA Γ Q 227 (o_iload 3) 1 := by
  obtain ⟨nm, C⟩ := E.2.2.1
  exact so_iload_n C rfl dL_law_227
theorem oo_L_law_228 {Γ : jΓ} {Q : jPost} {LL : Nat} {xs : Nat → Int32} (E : E_L_law LL xs Γ Q) : jSA Γ Q 228 (o_ifeq 286) 3 := by
  obtain ⟨nm, C⟩ := E.2.2.1
  exact so_ifeq C (by decide) dL_law_228
theorem oo_L_law_231 {Γ : jΓ} {Q : jPost} {LL : Nat} {xs : Nat → Int32} (E : E_L_law LL xs Γ Q) : jSA Γ Q 231 (o_iload 10) 2 := by
  obtain ⟨nm, C⟩ := E.2.2.1
  exact so_iload C dL_law_231
theorem oo_L_law_233 {Γ : jΓ} {Q : jPost} {LL : Nat} {xs : Nat → Int32} (E : E_L_law LL xs Γ Q) : jSA Γ Q 233 (o_ifeq 259) 3 := by
  obtain ⟨nm, C⟩ := E.2.2.1
  exact so_ifeq C (by decide) dL_law_233
theorem oo_L_law_236 {Γ : jΓ} {Q : jPost} {LL : Nat} {xs : Nat → Int32} (E : E_L_law LL xs Γ Q) : jSA Γ Q 236 (o_aload 4) 2 := by
  obtain ⟨nm, C⟩ := E.2.2.1
  exact so_aload C dL_law_236
theorem oo_L_law_238 {Γ : jΓ} {Q : jPost} {LL : Nat} {xs : Nat → Int32} (E : E_L_law LL xs Γ Q) : jSA Γ Q 238 (o_iload 10) 2 := by
  obtain ⟨nm, C⟩ := E.2.2.1
  exact so_iload C dL_law_238
theorem oo_L_law_240 {Γ : jΓ} {Q : jPost} {LL : Nat} {xs : Nat → Int32} (E : E_L_law LL xs Γ Q) : jSA Γ Q 240 (o_cv1 2 6 T_X6_run) 3 := by
  obtain ⟨nm, C⟩ := E.2.2.1
  exact so_cv1 C (ci := 6) (by rw [E.2.1]; rfl) gL_law_X6_run (by decide +kernel) rfl (by rw [E.2.1]; exact m_X6_run _) (by decide) (by decide) dL_law_240
theorem oo_L_law_243 {Γ : jΓ} {Q : jPost} {LL : Nat} {xs : Nat → Int32} (E : E_L_law LL xs Γ Q) : jSA Γ Q 243 (o_iload 10) 2 := by
  obtain ⟨nm, C⟩ := E.2.2.1
  exact so_iload C dL_law_243
theorem oo_L_law_245 {Γ : jΓ} {Q : jPost} {LL : Nat} {xs : Nat → Int32} (E : E_L_law LL xs Γ Q) : jSA Γ Q 245 (o_ifge 254) 3 := by
  obtain ⟨nm, C⟩ := E.2.2.1
  exact so_ifge C (by decide) dL_law_245
theorem oo_L_law_248 {Γ : jΓ} {Q : jPost} {LL : Nat} {xs : Nat → Int32} (E : E_L_law LL xs Γ Q) : jSA Γ Q 248 (o_iload 10) 2 := by
  obtain ⟨nm, C⟩ := E.2.2.1
  exact so_iload C dL_law_248
theorem oo_L_law_250 {Γ : jΓ} {Q : jPost} {LL : Nat} {xs : Nat → Int32} (E : E_L_law LL xs Γ Q) : jSA Γ Q 250 (o_ineg) 1 := by
  obtain ⟨nm, C⟩ := E.2.2.1
  exact so_ineg C dL_law_250
theorem oo_L_law_251 {Γ : jΓ} {Q : jPost} {LL : Nat} {xs : Nat → Int32} (E : E_L_law LL xs Γ Q) : jSA Γ Q 251 (o_goto 256) 3 := by
  obtain ⟨nm, C⟩ := E.2.2.1
  exact so_goto C (by decide) dL_law_251
theorem oo_L_law_254 {Γ : jΓ} {Q : jPost} {LL : Nat} {xs : Nat → Int32} (E : E_L_law LL xs Γ Q) : jSA Γ Q 254 (o_iload 10) 2 := by
  obtain ⟨nm, C⟩ := E.2.2.1
  exact so_iload C dL_law_254
theorem oo_L_law_256 {Γ : jΓ} {Q : jPost} {LL : Nat} {xs : Nat → Int32} (E : E_L_law LL xs Γ Q) : jSA Γ Q 256 (o_icne 286) 3 := by
  obtain ⟨nm, C⟩ := E.2.2.1
  exact so_icne C (by decide) dL_law_256
theorem oo_L_law_259 {Γ : jΓ} {Q : jPost} {LL : Nat} {xs : Nat → Int32} (E : E_L_law LL xs Γ Q) : jSA Γ Q 259 (o_aload 4) 2 := by
  obtain ⟨nm, C⟩ := E.2.2.1
  exact so_aload C dL_law_259
theorem oo_L_law_261 {Γ : jΓ} {Q : jPost} {LL : Nat} {xs : Nat → Int32} (E : E_L_law LL xs Γ Q) : jSA Γ Q 261 (o_cv1 1 6 T_X6_time) 3 := by
  obtain ⟨nm, C⟩ := E.2.2.1
  exact so_cv1 C (ci := 6) (by rw [E.2.1]; rfl) gL_law_X6_time (by decide +kernel) rfl (by rw [E.2.1]; exact m_X6_time _) (by decide) (by decide) dL_law_261
theorem oo_L_law_264 {Γ : jΓ} {Q : jPost} {LL : Nat} {xs : Nat → Int32} (E : E_L_law LL xs Γ Q) : jSA Γ Q 264 (o_iload 5) 2 := by
  obtain ⟨nm, C⟩ := E.2.2.1
  exact so_iload C dL_law_264
theorem oo_L_law_266 {Γ : jΓ} {Q : jPost} {LL : Nat} {xs : Nat → Int32} (E : E_L_law LL xs Γ Q) : jSA Γ Q 266 (o_icne 286) 3 := by
  obtain ⟨nm, C⟩ := E.2.2.1
  exact so_icne C (by decide) dL_law_266
theorem oo_L_law_269 {Γ : jΓ} {Q : jPost} {LL : Nat} {xs : Nat → Int32} (E : E_L_law LL xs Γ Q) : jSA Γ Q 269 (o_aload 4) 2 := by
  obtain ⟨nm, C⟩ := E.2.2.1
  exact so_aload C dL_law_269
theorem oo_L_law_271 {Γ : jΓ} {Q : jPost} {LL : Nat} {xs : Nat → Int32} (E : E_L_law LL xs Γ Q) : jSA Γ Q 271 (o_cv1 1 6 T_X6_digest) 3 := by
  obtain ⟨nm, C⟩ := E.2.2.1
  exact so_cv1 C (ci := 6) (by rw [E.2.1]; rfl) gL_law_X6_digest (by decide +kernel) rfl (by rw [E.2.1]; exact m_X6_digest _) (by decide) (by decide) dL_law_271
theorem oo_L_law_274 {Γ : jΓ} {Q : jPost} {LL : Nat} {xs : Nat → Int32} (E : E_L_law LL xs Γ Q) : jSA Γ Q 274 (o_aload 1) 1 := by
  obtain ⟨nm, C⟩ := E.2.2.1
  exact so_aload_n C rfl dL_law_274
theorem oo_L_law_275 {Γ : jΓ} {Q : jPost} {LL : Nat} {xs : Nat → Int32} (E : E_L_law LL xs Γ Q) : jSA Γ Q 275 (o_cv0 1 6 T_X6_digest) 3 := by
  obtain ⟨nm, C⟩ := E.2.2.1
  exact so_cv0 C (ci := 6) (by rw [E.2.1]; rfl) gL_law_X6_digest (by decide +kernel) rfl (by rw [E.2.1]; exact m_X6_digest _) (by decide) (by decide) dL_law_275
theorem oo_L_law_278 {Γ : jΓ} {Q : jPost} {LL : Nat} {xs : Nat → Int32} (E : E_L_law LL xs Γ Q) : jSA Γ Q 278 (o_lcmp) 1 := by
  obtain ⟨nm, C⟩ := E.2.2.1
  exact so_lcmp C dL_law_278
theorem oo_L_law_279 {Γ : jΓ} {Q : jPost} {LL : Nat} {xs : Nat → Int32} (E : E_L_law LL xs Γ Q) : jSA Γ Q 279 (o_ifne 286) 3 := by
  obtain ⟨nm, C⟩ := E.2.2.1
  exact so_ifne C (by decide) dL_law_279
theorem oo_L_law_282 {Γ : jΓ} {Q : jPost} {LL : Nat} {xs : Nat → Int32} (E : E_L_law LL xs Γ Q) : jSA Γ Q 282 (o_ic (1)) 1 := by
  obtain ⟨nm, C⟩ := E.2.2.1
  exact so_iconst C rfl dL_law_282
theorem oo_L_law_283 {Γ : jΓ} {Q : jPost} {LL : Nat} {xs : Nat → Int32} (E : E_L_law LL xs Γ Q) : jSA Γ Q 283 (o_goto 287) 3 := by
  obtain ⟨nm, C⟩ := E.2.2.1
  exact so_goto C (by decide) dL_law_283
theorem oo_L_law_286 {Γ : jΓ} {Q : jPost} {LL : Nat} {xs : Nat → Int32} (E : E_L_law LL xs Γ Q) : jSA Γ Q 286 (o_ic (0)) 1 := by
  obtain ⟨nm, C⟩ := E.2.2.1
  exact so_iconst C rfl dL_law_286
theorem oo_L_law_287 {Γ : jΓ} {Q : jPost} {LL : Nat} {xs : Nat → Int32} (E : E_L_law LL xs Γ Q) : jSA Γ Q 287 (o_istore 3) 1 := by
  obtain ⟨nm, C⟩ := E.2.2.1
  exact so_istore_n C rfl (by rw [E.1]; decide) dL_law_287
theorem oo_L_law_288 {Γ : jΓ} {Q : jPost} {LL : Nat} {xs : Nat → Int32} (E : E_L_law LL xs Γ Q) : jSA Γ Q 288 (o_ic (0)) 1 := by
  obtain ⟨nm, C⟩ := E.2.2.1
  exact so_iconst C rfl dL_law_288
theorem oo_L_law_289 {Γ : jΓ} {Q : jPost} {LL : Nat} {xs : Nat → Int32} (E : E_L_law LL xs Γ Q) : jSA Γ Q 289 (o_istore 11) 2 := by
  obtain ⟨nm, C⟩ := E.2.2.1
  exact so_istore C (by rw [E.1]; decide) dL_law_289
theorem oo_L_law_291 {Γ : jΓ} {Q : jPost} {LL : Nat} {xs : Nat → Int32} (E : E_L_law LL xs Γ Q) : jSA Γ Q 291 (o_iload 11) 2 := by
  obtain ⟨nm, C⟩ := E.2.2.1
  exact so_iload C dL_law_291
theorem oo_L_law_293 {Γ : jΓ} {Q : jPost} {LL : Nat} {xs : Nat → Int32} (E : E_L_law LL xs Γ Q) : jSA Γ Q 293 (o_aload 1) 1 := by
  obtain ⟨nm, C⟩ := E.2.2.1
  exact so_aload_n C rfl dL_law_293
theorem oo_L_law_294 {Γ : jΓ} {Q : jPost} {LL : Nat} {xs : Nat → Int32} (E : E_L_law LL xs Γ Q) : jSA Γ Q 294 (o_ic (0)) 1 := by
  obtain ⟨nm, C⟩ := E.2.2.1
  exact so_iconst C rfl dL_law_294
theorem oo_L_law_295 {Γ : jΓ} {Q : jPost} {LL : Nat} {xs : Nat → Int32} (E : E_L_law LL xs Γ Q) : jSA Γ Q 295 (o_cv0 2 6 T_X6_count) 3 := by
  obtain ⟨nm, C⟩ := E.2.2.1
  exact so_cv0 C (ci := 6) (by rw [E.2.1]; rfl) gL_law_X6_count (by decide +kernel) rfl (by rw [E.2.1]; exact m_X6_count _) (by decide) (by decide) dL_law_295
theorem oo_L_law_298 {Γ : jΓ} {Q : jPost} {LL : Nat} {xs : Nat → Int32} (E : E_L_law LL xs Γ Q) : jSA Γ Q 298 (o_icge 411) 3 := by
  obtain ⟨nm, C⟩ := E.2.2.1
  exact so_icge C (by decide) dL_law_298
theorem oo_L_law_301 {Γ : jΓ} {Q : jPost} {LL : Nat} {xs : Nat → Int32} (E : E_L_law LL xs Γ Q) : jSA Γ Q 301 (o_iload 3) 1 := by
  obtain ⟨nm, C⟩ := E.2.2.1
  exact so_iload_n C rfl dL_law_301
theorem oo_L_law_302 {Γ : jΓ} {Q : jPost} {LL : Nat} {xs : Nat → Int32} (E : E_L_law LL xs Γ Q) : jSA Γ Q 302 (o_ifeq 411) 3 := by
  obtain ⟨nm, C⟩ := E.2.2.1
  exact so_ifeq C (by decide) dL_law_302
theorem oo_L_law_305 {Γ : jΓ} {Q : jPost} {LL : Nat} {xs : Nat → Int32} (E : E_L_law LL xs Γ Q) : jSA Γ Q 305 (o_aload 1) 1 := by
  obtain ⟨nm, C⟩ := E.2.2.1
  exact so_aload_n C rfl dL_law_305
theorem oo_L_law_306 {Γ : jΓ} {Q : jPost} {LL : Nat} {xs : Nat → Int32} (E : E_L_law LL xs Γ Q) : jSA Γ Q 306 (o_iload 11) 2 := by
  obtain ⟨nm, C⟩ := E.2.2.1
  exact so_iload C dL_law_306
theorem oo_L_law_308 {Γ : jΓ} {Q : jPost} {LL : Nat} {xs : Nat → Int32} (E : E_L_law LL xs Γ Q) : jSA Γ Q 308 (o_ic (0)) 1 := by
  obtain ⟨nm, C⟩ := E.2.2.1
  exact so_iconst C rfl dL_law_308
theorem oo_L_law_309 {Γ : jΓ} {Q : jPost} {LL : Nat} {xs : Nat → Int32} (E : E_L_law LL xs Γ Q) : jSA Γ Q 309 (o_cv0 3 6 T_X6_told) 3 := by
  obtain ⟨nm, C⟩ := E.2.2.1
  exact so_cv0 C (ci := 6) (by rw [E.2.1]; rfl) gL_law_X6_told (by decide +kernel) rfl (by rw [E.2.1]; exact m_X6_told _) (by decide) (by decide) dL_law_309
theorem oo_L_law_312 {Γ : jΓ} {Q : jPost} {LL : Nat} {xs : Nat → Int32} (E : E_L_law LL xs Γ Q) : jSA Γ Q 312 (o_aload 4) 2 := by
  obtain ⟨nm, C⟩ := E.2.2.1
  exact so_aload C dL_law_312
theorem oo_L_law_314 {Γ : jΓ} {Q : jPost} {LL : Nat} {xs : Nat → Int32} (E : E_L_law LL xs Γ Q) : jSA Γ Q 314 (o_iload 11) 2 := by
  obtain ⟨nm, C⟩ := E.2.2.1
  exact so_iload C dL_law_314
theorem oo_L_law_316 {Γ : jΓ} {Q : jPost} {LL : Nat} {xs : Nat → Int32} (E : E_L_law LL xs Γ Q) : jSA Γ Q 316 (o_ic (0)) 1 := by
  obtain ⟨nm, C⟩ := E.2.2.1
  exact so_iconst C rfl dL_law_316
theorem oo_L_law_317 {Γ : jΓ} {Q : jPost} {LL : Nat} {xs : Nat → Int32} (E : E_L_law LL xs Γ Q) : jSA Γ Q 317 (o_cv1 3 6 T_X6_told) 3 := by
  obtain ⟨nm, C⟩ := E.2.2.1
  exact so_cv1 C (ci := 6) (by rw [E.2.1]; rfl) gL_law_X6_told (by decide +kernel) rfl (by rw [E.2.1]; exact m_X6_told _) (by decide) (by decide) dL_law_317
theorem oo_L_law_320 {Γ : jΓ} {Q : jPost} {LL : Nat} {xs : Nat → Int32} (E : E_L_law LL xs Γ Q) : jSA Γ Q 320 (o_icne 403) 3 := by
  obtain ⟨nm, C⟩ := E.2.2.1
  exact so_icne C (by decide) dL_law_320
theorem oo_L_law_323 {Γ : jΓ} {Q : jPost} {LL : Nat} {xs : Nat → Int32} (E : E_L_law LL xs Γ Q) : jSA Γ Q 323 (o_aload 1) 1 := by
  obtain ⟨nm, C⟩ := E.2.2.1
  exact so_aload_n C rfl dL_law_323
theorem oo_L_law_324 {Γ : jΓ} {Q : jPost} {LL : Nat} {xs : Nat → Int32} (E : E_L_law LL xs Γ Q) : jSA Γ Q 324 (o_iload 11) 2 := by
  obtain ⟨nm, C⟩ := E.2.2.1
  exact so_iload C dL_law_324
theorem oo_L_law_326 {Γ : jΓ} {Q : jPost} {LL : Nat} {xs : Nat → Int32} (E : E_L_law LL xs Γ Q) : jSA Γ Q 326 (o_ic (1)) 1 := by
  obtain ⟨nm, C⟩ := E.2.2.1
  exact so_iconst C rfl dL_law_326
theorem oo_L_law_327 {Γ : jΓ} {Q : jPost} {LL : Nat} {xs : Nat → Int32} (E : E_L_law LL xs Γ Q) : jSA Γ Q 327 (o_cv0 3 6 T_X6_told) 3 := by
  obtain ⟨nm, C⟩ := E.2.2.1
  exact so_cv0 C (ci := 6) (by rw [E.2.1]; rfl) gL_law_X6_told (by decide +kernel) rfl (by rw [E.2.1]; exact m_X6_told _) (by decide) (by decide) dL_law_327
theorem oo_L_law_330 {Γ : jΓ} {Q : jPost} {LL : Nat} {xs : Nat → Int32} (E : E_L_law LL xs Γ Q) : jSA Γ Q 330 (o_aload 4) 2 := by
  obtain ⟨nm, C⟩ := E.2.2.1
  exact so_aload C dL_law_330
theorem oo_L_law_332 {Γ : jΓ} {Q : jPost} {LL : Nat} {xs : Nat → Int32} (E : E_L_law LL xs Γ Q) : jSA Γ Q 332 (o_iload 11) 2 := by
  obtain ⟨nm, C⟩ := E.2.2.1
  exact so_iload C dL_law_332
theorem oo_L_law_334 {Γ : jΓ} {Q : jPost} {LL : Nat} {xs : Nat → Int32} (E : E_L_law LL xs Γ Q) : jSA Γ Q 334 (o_ic (1)) 1 := by
  obtain ⟨nm, C⟩ := E.2.2.1
  exact so_iconst C rfl dL_law_334
theorem oo_L_law_335 {Γ : jΓ} {Q : jPost} {LL : Nat} {xs : Nat → Int32} (E : E_L_law LL xs Γ Q) : jSA Γ Q 335 (o_cv1 3 6 T_X6_told) 3 := by
  obtain ⟨nm, C⟩ := E.2.2.1
  exact so_cv1 C (ci := 6) (by rw [E.2.1]; rfl) gL_law_X6_told (by decide +kernel) rfl (by rw [E.2.1]; exact m_X6_told _) (by decide) (by decide) dL_law_335
theorem oo_L_law_338 {Γ : jΓ} {Q : jPost} {LL : Nat} {xs : Nat → Int32} (E : E_L_law LL xs Γ Q) : jSA Γ Q 338 (o_icne 403) 3 := by
  obtain ⟨nm, C⟩ := E.2.2.1
  exact so_icne C (by decide) dL_law_338
theorem oo_L_law_341 {Γ : jΓ} {Q : jPost} {LL : Nat} {xs : Nat → Int32} (E : E_L_law LL xs Γ Q) : jSA Γ Q 341 (o_aload 1) 1 := by
  obtain ⟨nm, C⟩ := E.2.2.1
  exact so_aload_n C rfl dL_law_341
theorem oo_L_law_342 {Γ : jΓ} {Q : jPost} {LL : Nat} {xs : Nat → Int32} (E : E_L_law LL xs Γ Q) : jSA Γ Q 342 (o_iload 11) 2 := by
  obtain ⟨nm, C⟩ := E.2.2.1
  exact so_iload C dL_law_342
theorem oo_L_law_344 {Γ : jΓ} {Q : jPost} {LL : Nat} {xs : Nat → Int32} (E : E_L_law LL xs Γ Q) : jSA Γ Q 344 (o_ic (2)) 1 := by
  obtain ⟨nm, C⟩ := E.2.2.1
  exact so_iconst C rfl dL_law_344
theorem oo_L_law_345 {Γ : jΓ} {Q : jPost} {LL : Nat} {xs : Nat → Int32} (E : E_L_law LL xs Γ Q) : jSA Γ Q 345 (o_cv0 3 6 T_X6_told) 3 := by
  obtain ⟨nm, C⟩ := E.2.2.1
  exact so_cv0 C (ci := 6) (by rw [E.2.1]; rfl) gL_law_X6_told (by decide +kernel) rfl (by rw [E.2.1]; exact m_X6_told _) (by decide) (by decide) dL_law_345
theorem oo_L_law_348 {Γ : jΓ} {Q : jPost} {LL : Nat} {xs : Nat → Int32} (E : E_L_law LL xs Γ Q) : jSA Γ Q 348 (o_aload 4) 2 := by
  obtain ⟨nm, C⟩ := E.2.2.1
  exact so_aload C dL_law_348
theorem oo_L_law_350 {Γ : jΓ} {Q : jPost} {LL : Nat} {xs : Nat → Int32} (E : E_L_law LL xs Γ Q) : jSA Γ Q 350 (o_iload 11) 2 := by
  obtain ⟨nm, C⟩ := E.2.2.1
  exact so_iload C dL_law_350
theorem oo_L_law_352 {Γ : jΓ} {Q : jPost} {LL : Nat} {xs : Nat → Int32} (E : E_L_law LL xs Γ Q) : jSA Γ Q 352 (o_ic (2)) 1 := by
  obtain ⟨nm, C⟩ := E.2.2.1
  exact so_iconst C rfl dL_law_352
theorem oo_L_law_353 {Γ : jΓ} {Q : jPost} {LL : Nat} {xs : Nat → Int32} (E : E_L_law LL xs Γ Q) : jSA Γ Q 353 (o_cv1 3 6 T_X6_told) 3 := by
  obtain ⟨nm, C⟩ := E.2.2.1
  exact so_cv1 C (ci := 6) (by rw [E.2.1]; rfl) gL_law_X6_told (by decide +kernel) rfl (by rw [E.2.1]; exact m_X6_told _) (by decide) (by decide) dL_law_353
theorem oo_L_law_356 {Γ : jΓ} {Q : jPost} {LL : Nat} {xs : Nat → Int32} (E : E_L_law LL xs Γ Q) : jSA Γ Q 356 (o_icne 403) 3 := by
  obtain ⟨nm, C⟩ := E.2.2.1
  exact so_icne C (by decide) dL_law_356
theorem oo_L_law_359 {Γ : jΓ} {Q : jPost} {LL : Nat} {xs : Nat → Int32} (E : E_L_law LL xs Γ Q) : jSA Γ Q 359 (o_aload 1) 1 := by
  obtain ⟨nm, C⟩ := E.2.2.1
  exact so_aload_n C rfl dL_law_359
theorem oo_L_law_360 {Γ : jΓ} {Q : jPost} {LL : Nat} {xs : Nat → Int32} (E : E_L_law LL xs Γ Q) : jSA Γ Q 360 (o_aload 1) 1 := by
  obtain ⟨nm, C⟩ := E.2.2.1
  exact so_aload_n C rfl dL_law_360
theorem oo_L_law_361 {Γ : jΓ} {Q : jPost} {LL : Nat} {xs : Nat → Int32} (E : E_L_law LL xs Γ Q) : jSA Γ Q 361 (o_iload 11) 2 := by
  obtain ⟨nm, C⟩ := E.2.2.1
  exact so_iload C dL_law_361
theorem oo_L_law_363 {Γ : jΓ} {Q : jPost} {LL : Nat} {xs : Nat → Int32} (E : E_L_law LL xs Γ Q) : jSA Γ Q 363 (o_ic (0)) 1 := by
  obtain ⟨nm, C⟩ := E.2.2.1
  exact so_iconst C rfl dL_law_363
theorem oo_L_law_364 {Γ : jΓ} {Q : jPost} {LL : Nat} {xs : Nat → Int32} (E : E_L_law LL xs Γ Q) : jSA Γ Q 364 (o_cv0 3 6 T_X6_told) 3 := by
  obtain ⟨nm, C⟩ := E.2.2.1
  exact so_cv0 C (ci := 6) (by rw [E.2.1]; rfl) gL_law_X6_told (by decide +kernel) rfl (by rw [E.2.1]; exact m_X6_told _) (by decide) (by decide) dL_law_364
theorem oo_L_law_367 {Γ : jΓ} {Q : jPost} {LL : Nat} {xs : Nat → Int32} (E : E_L_law LL xs Γ Q) : jSA Γ Q 367 (o_aload 1) 1 := by
  obtain ⟨nm, C⟩ := E.2.2.1
  exact so_aload_n C rfl dL_law_367
theorem oo_L_law_368 {Γ : jΓ} {Q : jPost} {LL : Nat} {xs : Nat → Int32} (E : E_L_law LL xs Γ Q) : jSA Γ Q 368 (o_iload 11) 2 := by
  obtain ⟨nm, C⟩ := E.2.2.1
  exact so_iload C dL_law_368
theorem oo_L_law_370 {Γ : jΓ} {Q : jPost} {LL : Nat} {xs : Nat → Int32} (E : E_L_law LL xs Γ Q) : jSA Γ Q 370 (o_ic (1)) 1 := by
  obtain ⟨nm, C⟩ := E.2.2.1
  exact so_iconst C rfl dL_law_370
theorem oo_L_law_371 {Γ : jΓ} {Q : jPost} {LL : Nat} {xs : Nat → Int32} (E : E_L_law LL xs Γ Q) : jSA Γ Q 371 (o_cv0 3 6 T_X6_told) 3 := by
  obtain ⟨nm, C⟩ := E.2.2.1
  exact so_cv0 C (ci := 6) (by rw [E.2.1]; rfl) gL_law_X6_told (by decide +kernel) rfl (by rw [E.2.1]; exact m_X6_told _) (by decide) (by decide) dL_law_371
theorem oo_L_law_374 {Γ : jΓ} {Q : jPost} {LL : Nat} {xs : Nat → Int32} (E : E_L_law LL xs Γ Q) : jSA Γ Q 374 (o_cv0 3 6 T_X6_visits) 3 := by
  obtain ⟨nm, C⟩ := E.2.2.1
  exact so_cv0 C (ci := 6) (by rw [E.2.1]; rfl) gL_law_X6_visits (by decide +kernel) rfl (by rw [E.2.1]; exact m_X6_visits _) (by decide) (by decide) dL_law_374
theorem oo_L_law_377 {Γ : jΓ} {Q : jPost} {LL : Nat} {xs : Nat → Int32} (E : E_L_law LL xs Γ Q) : jSA Γ Q 377 (o_aload 4) 2 := by
  obtain ⟨nm, C⟩ := E.2.2.1
  exact so_aload C dL_law_377
theorem oo_L_law_379 {Γ : jΓ} {Q : jPost} {LL : Nat} {xs : Nat → Int32} (E : E_L_law LL xs Γ Q) : jSA Γ Q 379 (o_aload 1) 1 := by
  obtain ⟨nm, C⟩ := E.2.2.1
  exact so_aload_n C rfl dL_law_379
theorem oo_L_law_380 {Γ : jΓ} {Q : jPost} {LL : Nat} {xs : Nat → Int32} (E : E_L_law LL xs Γ Q) : jSA Γ Q 380 (o_iload 11) 2 := by
  obtain ⟨nm, C⟩ := E.2.2.1
  exact so_iload C dL_law_380
theorem oo_L_law_382 {Γ : jΓ} {Q : jPost} {LL : Nat} {xs : Nat → Int32} (E : E_L_law LL xs Γ Q) : jSA Γ Q 382 (o_ic (0)) 1 := by
  obtain ⟨nm, C⟩ := E.2.2.1
  exact so_iconst C rfl dL_law_382
theorem oo_L_law_383 {Γ : jΓ} {Q : jPost} {LL : Nat} {xs : Nat → Int32} (E : E_L_law LL xs Γ Q) : jSA Γ Q 383 (o_cv0 3 6 T_X6_told) 3 := by
  obtain ⟨nm, C⟩ := E.2.2.1
  exact so_cv0 C (ci := 6) (by rw [E.2.1]; rfl) gL_law_X6_told (by decide +kernel) rfl (by rw [E.2.1]; exact m_X6_told _) (by decide) (by decide) dL_law_383
theorem oo_L_law_386 {Γ : jΓ} {Q : jPost} {LL : Nat} {xs : Nat → Int32} (E : E_L_law LL xs Γ Q) : jSA Γ Q 386 (o_aload 1) 1 := by
  obtain ⟨nm, C⟩ := E.2.2.1
  exact so_aload_n C rfl dL_law_386
theorem oo_L_law_387 {Γ : jΓ} {Q : jPost} {LL : Nat} {xs : Nat → Int32} (E : E_L_law LL xs Γ Q) : jSA Γ Q 387 (o_iload 11) 2 := by
  obtain ⟨nm, C⟩ := E.2.2.1
  exact so_iload C dL_law_387
theorem oo_L_law_389 {Γ : jΓ} {Q : jPost} {LL : Nat} {xs : Nat → Int32} (E : E_L_law LL xs Γ Q) : jSA Γ Q 389 (o_ic (1)) 1 := by
  obtain ⟨nm, C⟩ := E.2.2.1
  exact so_iconst C rfl dL_law_389
theorem oo_L_law_390 {Γ : jΓ} {Q : jPost} {LL : Nat} {xs : Nat → Int32} (E : E_L_law LL xs Γ Q) : jSA Γ Q 390 (o_cv0 3 6 T_X6_told) 3 := by
  obtain ⟨nm, C⟩ := E.2.2.1
  exact so_cv0 C (ci := 6) (by rw [E.2.1]; rfl) gL_law_X6_told (by decide +kernel) rfl (by rw [E.2.1]; exact m_X6_told _) (by decide) (by decide) dL_law_390
theorem oo_L_law_393 {Γ : jΓ} {Q : jPost} {LL : Nat} {xs : Nat → Int32} (E : E_L_law LL xs Γ Q) : jSA Γ Q 393 (o_cv1 3 6 T_X6_visits) 3 := by
  obtain ⟨nm, C⟩ := E.2.2.1
  exact so_cv1 C (ci := 6) (by rw [E.2.1]; rfl) gL_law_X6_visits (by decide +kernel) rfl (by rw [E.2.1]; exact m_X6_visits _) (by decide) (by decide) dL_law_393
theorem oo_L_law_396 {Γ : jΓ} {Q : jPost} {LL : Nat} {xs : Nat → Int32} (E : E_L_law LL xs Γ Q) : jSA Γ Q 396 (o_icne 403) 3 := by
  obtain ⟨nm, C⟩ := E.2.2.1
  exact so_icne C (by decide) dL_law_396
theorem oo_L_law_399 {Γ : jΓ} {Q : jPost} {LL : Nat} {xs : Nat → Int32} (E : E_L_law LL xs Γ Q) : jSA Γ Q 399 (o_ic (1)) 1 := by
  obtain ⟨nm, C⟩ := E.2.2.1
  exact so_iconst C rfl dL_law_399
theorem oo_L_law_400 {Γ : jΓ} {Q : jPost} {LL : Nat} {xs : Nat → Int32} (E : E_L_law LL xs Γ Q) : jSA Γ Q 400 (o_goto 404) 3 := by
  obtain ⟨nm, C⟩ := E.2.2.1
  exact so_goto C (by decide) dL_law_400
theorem oo_L_law_403 {Γ : jΓ} {Q : jPost} {LL : Nat} {xs : Nat → Int32} (E : E_L_law LL xs Γ Q) : jSA Γ Q 403 (o_ic (0)) 1 := by
  obtain ⟨nm, C⟩ := E.2.2.1
  exact so_iconst C rfl dL_law_403
theorem oo_L_law_404 {Γ : jΓ} {Q : jPost} {LL : Nat} {xs : Nat → Int32} (E : E_L_law LL xs Γ Q) : jSA Γ Q 404 (o_istore 3) 1 := by
  obtain ⟨nm, C⟩ := E.2.2.1
  exact so_istore_n C rfl (by rw [E.1]; decide) dL_law_404
theorem oo_L_law_405 {Γ : jΓ} {Q : jPost} {LL : Nat} {xs : Nat → Int32} (E : E_L_law LL xs Γ Q) : jSA Γ Q 405 (o_iinc 11 (1)) 3 := by
  obtain ⟨nm, C⟩ := E.2.2.1
  exact so_iinc C rfl (by rw [E.1]; decide) dL_law_405
theorem oo_L_law_408 {Γ : jΓ} {Q : jPost} {LL : Nat} {xs : Nat → Int32} (E : E_L_law LL xs Γ Q) : jSA Γ Q 408 (o_goto 291) 3 := by
  obtain ⟨nm, C⟩ := E.2.2.1
  exact so_goto C (by decide) dL_law_408
theorem oo_L_law_411 {Γ : jΓ} {Q : jPost} {LL : Nat} {xs : Nat → Int32} (E : E_L_law LL xs Γ Q) : jSA Γ Q 411 (o_iload 3) 1 := by
  obtain ⟨nm, C⟩ := E.2.2.1
  exact so_iload_n C rfl dL_law_411
theorem oo_L_law_412 {Γ : jΓ} {Q : jPost} {LL : Nat} {xs : Nat → Int32} (E : E_L_law LL xs Γ Q) : jSA Γ Q 412 (o_ifeq 484) 3 := by
  obtain ⟨nm, C⟩ := E.2.2.1
  exact so_ifeq C (by decide) dL_law_412
theorem oo_L_law_415 {Γ : jΓ} {Q : jPost} {LL : Nat} {xs : Nat → Int32} (E : E_L_law LL xs Γ Q) : jSA Γ Q 415 (o_aload 1) 1 := by
  obtain ⟨nm, C⟩ := E.2.2.1
  exact so_aload_n C rfl dL_law_415
theorem oo_L_law_416 {Γ : jΓ} {Q : jPost} {LL : Nat} {xs : Nat → Int32} (E : E_L_law LL xs Γ Q) : jSA Γ Q 416 (o_ic (3)) 1 := by
  obtain ⟨nm, C⟩ := E.2.2.1
  exact so_iconst C rfl dL_law_416
theorem oo_L_law_417 {Γ : jΓ} {Q : jPost} {LL : Nat} {xs : Nat → Int32} (E : E_L_law LL xs Γ Q) : jSA Γ Q 417 (o_cv0 2 6 T_X6_count) 3 := by
  obtain ⟨nm, C⟩ := E.2.2.1
  exact so_cv0 C (ci := 6) (by rw [E.2.1]; rfl) gL_law_X6_count (by decide +kernel) rfl (by rw [E.2.1]; exact m_X6_count _) (by decide) (by decide) dL_law_417
theorem oo_L_law_420 {Γ : jΓ} {Q : jPost} {LL : Nat} {xs : Nat → Int32} (E : E_L_law LL xs Γ Q) : jSA Γ Q 420 (o_aload 4) 2 := by
  obtain ⟨nm, C⟩ := E.2.2.1
  exact so_aload C dL_law_420
theorem oo_L_law_422 {Γ : jΓ} {Q : jPost} {LL : Nat} {xs : Nat → Int32} (E : E_L_law LL xs Γ Q) : jSA Γ Q 422 (o_ic (3)) 1 := by
  obtain ⟨nm, C⟩ := E.2.2.1
  exact so_iconst C rfl dL_law_422
theorem oo_L_law_423 {Γ : jΓ} {Q : jPost} {LL : Nat} {xs : Nat → Int32} (E : E_L_law LL xs Γ Q) : jSA Γ Q 423 (o_cv1 2 6 T_X6_count) 3 := by
  obtain ⟨nm, C⟩ := E.2.2.1
  exact so_cv1 C (ci := 6) (by rw [E.2.1]; rfl) gL_law_X6_count (by decide +kernel) rfl (by rw [E.2.1]; exact m_X6_count _) (by decide) (by decide) dL_law_423
theorem oo_L_law_426 {Γ : jΓ} {Q : jPost} {LL : Nat} {xs : Nat → Int32} (E : E_L_law LL xs Γ Q) : jSA Γ Q 426 (o_icne 484) 3 := by
  obtain ⟨nm, C⟩ := E.2.2.1
  exact so_icne C (by decide) dL_law_426
theorem oo_L_law_429 {Γ : jΓ} {Q : jPost} {LL : Nat} {xs : Nat → Int32} (E : E_L_law LL xs Γ Q) : jSA Γ Q 429 (o_iload 9) 2 := by
  obtain ⟨nm, C⟩ := E.2.2.1
  exact so_iload C dL_law_429
theorem oo_L_law_431 {Γ : jΓ} {Q : jPost} {LL : Nat} {xs : Nat → Int32} (E : E_L_law LL xs Γ Q) : jSA Γ Q 431 (o_iflt 480) 3 := by
  obtain ⟨nm, C⟩ := E.2.2.1
  exact so_iflt C (by decide) dL_law_431
theorem oo_L_law_434 {Γ : jΓ} {Q : jPost} {LL : Nat} {xs : Nat → Int32} (E : E_L_law LL xs Γ Q) : jSA Γ Q 434 (o_iload 9) 2 := by
  obtain ⟨nm, C⟩ := E.2.2.1
  exact so_iload C dL_law_434
theorem oo_L_law_436 {Γ : jΓ} {Q : jPost} {LL : Nat} {xs : Nat → Int32} (E : E_L_law LL xs Γ Q) : jSA Γ Q 436 (o_iload 8) 2 := by
  obtain ⟨nm, C⟩ := E.2.2.1
  exact so_iload C dL_law_436
theorem oo_L_law_438 {Γ : jΓ} {Q : jPost} {LL : Nat} {xs : Nat → Int32} (E : E_L_law LL xs Γ Q) : jSA Γ Q 438 (o_ifge 447) 3 := by
  obtain ⟨nm, C⟩ := E.2.2.1
  exact so_ifge C (by decide) dL_law_438
theorem oo_L_law_441 {Γ : jΓ} {Q : jPost} {LL : Nat} {xs : Nat → Int32} (E : E_L_law LL xs Γ Q) : jSA Γ Q 441 (o_iload 8) 2 := by
  obtain ⟨nm, C⟩ := E.2.2.1
  exact so_iload C dL_law_441
theorem oo_L_law_443 {Γ : jΓ} {Q : jPost} {LL : Nat} {xs : Nat → Int32} (E : E_L_law LL xs Γ Q) : jSA Γ Q 443 (o_ineg) 1 := by
  obtain ⟨nm, C⟩ := E.2.2.1
  exact so_ineg C dL_law_443
theorem oo_L_law_444 {Γ : jΓ} {Q : jPost} {LL : Nat} {xs : Nat → Int32} (E : E_L_law LL xs Γ Q) : jSA Γ Q 444 (o_goto 449) 3 := by
  obtain ⟨nm, C⟩ := E.2.2.1
  exact so_goto C (by decide) dL_law_444
theorem oo_L_law_447 {Γ : jΓ} {Q : jPost} {LL : Nat} {xs : Nat → Int32} (E : E_L_law LL xs Γ Q) : jSA Γ Q 447 (o_iload 8) 2 := by
  obtain ⟨nm, C⟩ := E.2.2.1
  exact so_iload C dL_law_447
theorem oo_L_law_449 {Γ : jΓ} {Q : jPost} {LL : Nat} {xs : Nat → Int32} (E : E_L_law LL xs Γ Q) : jSA Γ Q 449 (o_iceq 480) 3 := by
  obtain ⟨nm, C⟩ := E.2.2.1
  exact so_iceq C (by decide) dL_law_449
theorem oo_L_law_452 {Γ : jΓ} {Q : jPost} {LL : Nat} {xs : Nat → Int32} (E : E_L_law LL xs Γ Q) : jSA Γ Q 452 (o_aload 1) 1 := by
  obtain ⟨nm, C⟩ := E.2.2.1
  exact so_aload_n C rfl dL_law_452
theorem oo_L_law_453 {Γ : jΓ} {Q : jPost} {LL : Nat} {xs : Nat → Int32} (E : E_L_law LL xs Γ Q) : jSA Γ Q 453 (o_iload 8) 2 := by
  obtain ⟨nm, C⟩ := E.2.2.1
  exact so_iload C dL_law_453
theorem oo_L_law_455 {Γ : jΓ} {Q : jPost} {LL : Nat} {xs : Nat → Int32} (E : E_L_law LL xs Γ Q) : jSA Γ Q 455 (o_ifge 462) 3 := by
  obtain ⟨nm, C⟩ := E.2.2.1
  exact so_ifge C (by decide) dL_law_455
theorem oo_L_law_458 {Γ : jΓ} {Q : jPost} {LL : Nat} {xs : Nat → Int32} (E : E_L_law LL xs Γ Q) : jSA Γ Q 458 (o_ic (-1)) 1 := by
  obtain ⟨nm, C⟩ := E.2.2.1
  exact so_iconst C rfl dL_law_458
theorem oo_L_law_459 {Γ : jΓ} {Q : jPost} {LL : Nat} {xs : Nat → Int32} (E : E_L_law LL xs Γ Q) : jSA Γ Q 459 (o_goto 463) 3 := by
  obtain ⟨nm, C⟩ := E.2.2.1
  exact so_goto C (by decide) dL_law_459
theorem oo_L_law_462 {Γ : jΓ} {Q : jPost} {LL : Nat} {xs : Nat → Int32} (E : E_L_law LL xs Γ Q) : jSA Γ Q 462 (o_ic (1)) 1 := by
  obtain ⟨nm, C⟩ := E.2.2.1
  exact so_iconst C rfl dL_law_462
theorem oo_L_law_463 {Γ : jΓ} {Q : jPost} {LL : Nat} {xs : Nat → Int32} (E : E_L_law LL xs Γ Q) : jSA Γ Q 463 (o_cv0 2 6 T_X6_run) 3 := by
  obtain ⟨nm, C⟩ := E.2.2.1
  exact so_cv0 C (ci := 6) (by rw [E.2.1]; rfl) gL_law_X6_run (by decide +kernel) rfl (by rw [E.2.1]; exact m_X6_run _) (by decide) (by decide) dL_law_463
theorem oo_L_law_466 {Γ : jΓ} {Q : jPost} {LL : Nat} {xs : Nat → Int32} (E : E_L_law LL xs Γ Q) : jSA Γ Q 466 (o_ic (-4)) 2 := by
  obtain ⟨nm, C⟩ := E.2.2.1
  exact so_bipush C rfl dL_law_466
theorem oo_L_law_468 {Γ : jΓ} {Q : jPost} {LL : Nat} {xs : Nat → Int32} (E : E_L_law LL xs Γ Q) : jSA Γ Q 468 (o_icne 484) 3 := by
  obtain ⟨nm, C⟩ := E.2.2.1
  exact so_icne C (by decide) dL_law_468
theorem oo_L_law_471 {Γ : jΓ} {Q : jPost} {LL : Nat} {xs : Nat → Int32} (E : E_L_law LL xs Γ Q) : jSA Γ Q 471 (o_aload 1) 1 := by
  obtain ⟨nm, C⟩ := E.2.2.1
  exact so_aload_n C rfl dL_law_471
theorem oo_L_law_472 {Γ : jΓ} {Q : jPost} {LL : Nat} {xs : Nat → Int32} (E : E_L_law LL xs Γ Q) : jSA Γ Q 472 (o_cv0 1 6 T_X6_time) 3 := by
  obtain ⟨nm, C⟩ := E.2.2.1
  exact so_cv0 C (ci := 6) (by rw [E.2.1]; rfl) gL_law_X6_time (by decide +kernel) rfl (by rw [E.2.1]; exact m_X6_time _) (by decide) (by decide) dL_law_472
theorem oo_L_law_475 {Γ : jΓ} {Q : jPost} {LL : Nat} {xs : Nat → Int32} (E : E_L_law LL xs Γ Q) : jSA Γ Q 475 (o_iload 5) 2 := by
  obtain ⟨nm, C⟩ := E.2.2.1
  exact so_iload C dL_law_475
theorem oo_L_law_477 {Γ : jΓ} {Q : jPost} {LL : Nat} {xs : Nat → Int32} (E : E_L_law LL xs Γ Q) : jSA Γ Q 477 (o_icne 484) 3 := by
  obtain ⟨nm, C⟩ := E.2.2.1
  exact so_icne C (by decide) dL_law_477
theorem oo_L_law_480 {Γ : jΓ} {Q : jPost} {LL : Nat} {xs : Nat → Int32} (E : E_L_law LL xs Γ Q) : jSA Γ Q 480 (o_ic (1)) 1 := by
  obtain ⟨nm, C⟩ := E.2.2.1
  exact so_iconst C rfl dL_law_480
theorem oo_L_law_481 {Γ : jΓ} {Q : jPost} {LL : Nat} {xs : Nat → Int32} (E : E_L_law LL xs Γ Q) : jSA Γ Q 481 (o_goto 485) 3 := by
  obtain ⟨nm, C⟩ := E.2.2.1
  exact so_goto C (by decide) dL_law_481
theorem oo_L_law_484 {Γ : jΓ} {Q : jPost} {LL : Nat} {xs : Nat → Int32} (E : E_L_law LL xs Γ Q) : jSA Γ Q 484 (o_ic (0)) 1 := by
  obtain ⟨nm, C⟩ := E.2.2.1
  exact so_iconst C rfl dL_law_484
theorem oo_L_law_485 {Γ : jΓ} {Q : jPost} {LL : Nat} {xs : Nat → Int32} (E : E_L_law LL xs Γ Q) : jSA Γ Q 485 (o_istore 3) 1 := by
  obtain ⟨nm, C⟩ := E.2.2.1
  exact so_istore_n C rfl (by rw [E.1]; decide) dL_law_485
theorem oo_L_law_486 {Γ : jΓ} {Q : jPost} {LL : Nat} {xs : Nat → Int32} (E : E_L_law LL xs Γ Q) : jSA Γ Q 486 (o_iinc 6 (1)) 3 := by
  obtain ⟨nm, C⟩ := E.2.2.1
  exact so_iinc C rfl (by rw [E.1]; decide) dL_law_486
theorem oo_L_law_489 {Γ : jΓ} {Q : jPost} {LL : Nat} {xs : Nat → Int32} (E : E_L_law LL xs Γ Q) : jSA Γ Q 489 (o_goto 73) 3 := by
  obtain ⟨nm, C⟩ := E.2.2.1
  exact so_goto C (by decide) dL_law_489
theorem oo_L_law_492 {Γ : jΓ} {Q : jPost} {LL : Nat} {xs : Nat → Int32} (E : E_L_law LL xs Γ Q) : jSA Γ Q 492 (o_aload 1) 1 := by
  obtain ⟨nm, C⟩ := E.2.2.1
  exact so_aload_n C rfl dL_law_492
theorem oo_L_law_493 {Γ : jΓ} {Q : jPost} {LL : Nat} {xs : Nat → Int32} (E : E_L_law LL xs Γ Q) : jSA Γ Q 493 (o_cv0 1 6 T_X6_digest) 3 := by
  obtain ⟨nm, C⟩ := E.2.2.1
  exact so_cv0 C (ci := 6) (by rw [E.2.1]; rfl) gL_law_X6_digest (by decide +kernel) rfl (by rw [E.2.1]; exact m_X6_digest _) (by decide) (by decide) dL_law_493
theorem oo_L_law_496 {Γ : jΓ} {Q : jPost} {LL : Nat} {xs : Nat → Int32} (E : E_L_law LL xs Γ Q) : jSA Γ Q 496 (o_lstore 6) 2 := by
  obtain ⟨nm, C⟩ := E.2.2.1
  exact so_lstore C (by rw [E.1]; decide) dL_law_496
theorem oo_L_law_498 {Γ : jΓ} {Q : jPost} {LL : Nat} {xs : Nat → Int32} (E : E_L_law LL xs Γ Q) : jSA Γ Q 498 (o_iload 3) 1 := by
  obtain ⟨nm, C⟩ := E.2.2.1
  exact so_iload_n C rfl dL_law_498
theorem oo_L_law_499 {Γ : jΓ} {Q : jPost} {LL : Nat} {xs : Nat → Int32} (E : E_L_law LL xs Γ Q) : jSA Γ Q 499 (o_ifeq 549) 3 := by
  obtain ⟨nm, C⟩ := E.2.2.1
  exact so_ifeq C (by decide) dL_law_499
theorem oo_L_law_502 {Γ : jΓ} {Q : jPost} {LL : Nat} {xs : Nat → Int32} (E : E_L_law LL xs Γ Q) : jSA Γ Q 502 (o_iload 5) 2 := by
  obtain ⟨nm, C⟩ := E.2.2.1
  exact so_iload C dL_law_502
theorem oo_L_law_504 {Γ : jΓ} {Q : jPost} {LL : Nat} {xs : Nat → Int32} (E : E_L_law LL xs Γ Q) : jSA Γ Q 504 (o_ifeq 530) 3 := by
  obtain ⟨nm, C⟩ := E.2.2.1
  exact so_ifeq C (by decide) dL_law_504
theorem oo_L_law_507 {Γ : jΓ} {Q : jPost} {LL : Nat} {xs : Nat → Int32} (E : E_L_law LL xs Γ Q) : jSA Γ Q 507 (o_aload 1) 1 := by
  obtain ⟨nm, C⟩ := E.2.2.1
  exact so_aload_n C rfl dL_law_507
theorem oo_L_law_508 {Γ : jΓ} {Q : jPost} {LL : Nat} {xs : Nat → Int32} (E : E_L_law LL xs Γ Q) : jSA Γ Q 508 (o_iload 5) 2 := by
  obtain ⟨nm, C⟩ := E.2.2.1
  exact so_iload C dL_law_508
theorem oo_L_law_510 {Γ : jΓ} {Q : jPost} {LL : Nat} {xs : Nat → Int32} (E : E_L_law LL xs Γ Q) : jSA Γ Q 510 (o_ineg) 1 := by
  obtain ⟨nm, C⟩ := E.2.2.1
  exact so_ineg C dL_law_510
theorem oo_L_law_511 {Γ : jΓ} {Q : jPost} {LL : Nat} {xs : Nat → Int32} (E : E_L_law LL xs Γ Q) : jSA Γ Q 511 (o_cv0 2 6 T_X6_run) 3 := by
  obtain ⟨nm, C⟩ := E.2.2.1
  exact so_cv0 C (ci := 6) (by rw [E.2.1]; rfl) gL_law_X6_run (by decide +kernel) rfl (by rw [E.2.1]; exact m_X6_run _) (by decide) (by decide) dL_law_511
theorem oo_L_law_514 {Γ : jΓ} {Q : jPost} {LL : Nat} {xs : Nat → Int32} (E : E_L_law LL xs Γ Q) : jSA Γ Q 514 (o_iload 5) 2 := by
  obtain ⟨nm, C⟩ := E.2.2.1
  exact so_iload C dL_law_514
theorem oo_L_law_516 {Γ : jΓ} {Q : jPost} {LL : Nat} {xs : Nat → Int32} (E : E_L_law LL xs Γ Q) : jSA Γ Q 516 (o_ifge 525) 3 := by
  obtain ⟨nm, C⟩ := E.2.2.1
  exact so_ifge C (by decide) dL_law_516
theorem oo_L_law_519 {Γ : jΓ} {Q : jPost} {LL : Nat} {xs : Nat → Int32} (E : E_L_law LL xs Γ Q) : jSA Γ Q 519 (o_iload 5) 2 := by
  obtain ⟨nm, C⟩ := E.2.2.1
  exact so_iload C dL_law_519
theorem oo_L_law_521 {Γ : jΓ} {Q : jPost} {LL : Nat} {xs : Nat → Int32} (E : E_L_law LL xs Γ Q) : jSA Γ Q 521 (o_ineg) 1 := by
  obtain ⟨nm, C⟩ := E.2.2.1
  exact so_ineg C dL_law_521
theorem oo_L_law_522 {Γ : jΓ} {Q : jPost} {LL : Nat} {xs : Nat → Int32} (E : E_L_law LL xs Γ Q) : jSA Γ Q 522 (o_goto 527) 3 := by
  obtain ⟨nm, C⟩ := E.2.2.1
  exact so_goto C (by decide) dL_law_522
theorem oo_L_law_525 {Γ : jΓ} {Q : jPost} {LL : Nat} {xs : Nat → Int32} (E : E_L_law LL xs Γ Q) : jSA Γ Q 525 (o_iload 5) 2 := by
  obtain ⟨nm, C⟩ := E.2.2.1
  exact so_iload C dL_law_525
theorem oo_L_law_527 {Γ : jΓ} {Q : jPost} {LL : Nat} {xs : Nat → Int32} (E : E_L_law LL xs Γ Q) : jSA Γ Q 527 (o_icne 549) 3 := by
  obtain ⟨nm, C⟩ := E.2.2.1
  exact so_icne C (by decide) dL_law_527
theorem oo_L_law_530 {Γ : jΓ} {Q : jPost} {LL : Nat} {xs : Nat → Int32} (E : E_L_law LL xs Γ Q) : jSA Γ Q 530 (o_aload 1) 1 := by
  obtain ⟨nm, C⟩ := E.2.2.1
  exact so_aload_n C rfl dL_law_530
theorem oo_L_law_531 {Γ : jΓ} {Q : jPost} {LL : Nat} {xs : Nat → Int32} (E : E_L_law LL xs Γ Q) : jSA Γ Q 531 (o_cv0 1 6 T_X6_time) 3 := by
  obtain ⟨nm, C⟩ := E.2.2.1
  exact so_cv0 C (ci := 6) (by rw [E.2.1]; rfl) gL_law_X6_time (by decide +kernel) rfl (by rw [E.2.1]; exact m_X6_time _) (by decide) (by decide) dL_law_531
theorem oo_L_law_534 {Γ : jΓ} {Q : jPost} {LL : Nat} {xs : Nat → Int32} (E : E_L_law LL xs Γ Q) : jSA Γ Q 534 (o_ifne 549) 3 := by
  obtain ⟨nm, C⟩ := E.2.2.1
  exact so_ifne C (by decide) dL_law_534
theorem oo_L_law_537 {Γ : jΓ} {Q : jPost} {LL : Nat} {xs : Nat → Int32} (E : E_L_law LL xs Γ Q) : jSA Γ Q 537 (o_aload 1) 1 := by
  obtain ⟨nm, C⟩ := E.2.2.1
  exact so_aload_n C rfl dL_law_537
theorem oo_L_law_538 {Γ : jΓ} {Q : jPost} {LL : Nat} {xs : Nat → Int32} (E : E_L_law LL xs Γ Q) : jSA Γ Q 538 (o_ic (1)) 1 := by
  obtain ⟨nm, C⟩ := E.2.2.1
  exact so_iconst C rfl dL_law_538
theorem oo_L_law_539 {Γ : jΓ} {Q : jPost} {LL : Nat} {xs : Nat → Int32} (E : E_L_law LL xs Γ Q) : jSA Γ Q 539 (o_cv0 2 6 T_X6_count) 3 := by
  obtain ⟨nm, C⟩ := E.2.2.1
  exact so_cv0 C (ci := 6) (by rw [E.2.1]; rfl) gL_law_X6_count (by decide +kernel) rfl (by rw [E.2.1]; exact m_X6_count _) (by decide) (by decide) dL_law_539
theorem oo_L_law_542 {Γ : jΓ} {Q : jPost} {LL : Nat} {xs : Nat → Int32} (E : E_L_law LL xs Γ Q) : jSA Γ Q 542 (o_ifne 549) 3 := by
  obtain ⟨nm, C⟩ := E.2.2.1
  exact so_ifne C (by decide) dL_law_542
theorem oo_L_law_545 {Γ : jΓ} {Q : jPost} {LL : Nat} {xs : Nat → Int32} (E : E_L_law LL xs Γ Q) : jSA Γ Q 545 (o_ic (1)) 1 := by
  obtain ⟨nm, C⟩ := E.2.2.1
  exact so_iconst C rfl dL_law_545
theorem oo_L_law_546 {Γ : jΓ} {Q : jPost} {LL : Nat} {xs : Nat → Int32} (E : E_L_law LL xs Γ Q) : jSA Γ Q 546 (o_goto 550) 3 := by
  obtain ⟨nm, C⟩ := E.2.2.1
  exact so_goto C (by decide) dL_law_546
theorem oo_L_law_549 {Γ : jΓ} {Q : jPost} {LL : Nat} {xs : Nat → Int32} (E : E_L_law LL xs Γ Q) : jSA Γ Q 549 (o_ic (0)) 1 := by
  obtain ⟨nm, C⟩ := E.2.2.1
  exact so_iconst C rfl dL_law_549
theorem oo_L_law_550 {Γ : jΓ} {Q : jPost} {LL : Nat} {xs : Nat → Int32} (E : E_L_law LL xs Γ Q) : jSA Γ Q 550 (o_istore 3) 1 := by
  obtain ⟨nm, C⟩ := E.2.2.1
  exact so_istore_n C rfl (by rw [E.1]; decide) dL_law_550
theorem oo_L_law_551 {Γ : jΓ} {Q : jPost} {LL : Nat} {xs : Nat → Int32} (E : E_L_law LL xs Γ Q) : jSA Γ Q 551 (o_iload 3) 1 := by
  obtain ⟨nm, C⟩ := E.2.2.1
  exact so_iload_n C rfl dL_law_551
theorem oo_L_law_552 {Γ : jΓ} {Q : jPost} {LL : Nat} {xs : Nat → Int32} (E : E_L_law LL xs Γ Q) : jSA Γ Q 552 (o_ifeq 596) 3 := by
  obtain ⟨nm, C⟩ := E.2.2.1
  exact so_ifeq C (by decide) dL_law_552
theorem oo_L_law_555 {Γ : jΓ} {Q : jPost} {LL : Nat} {xs : Nat → Int32} (E : E_L_law LL xs Γ Q) : jSA Γ Q 555 (o_iload 5) 2 := by
  obtain ⟨nm, C⟩ := E.2.2.1
  exact so_iload C dL_law_555
theorem oo_L_law_557 {Γ : jΓ} {Q : jPost} {LL : Nat} {xs : Nat → Int32} (E : E_L_law LL xs Γ Q) : jSA Γ Q 557 (o_ifeq 582) 3 := by
  obtain ⟨nm, C⟩ := E.2.2.1
  exact so_ifeq C (by decide) dL_law_557
theorem oo_L_law_560 {Γ : jΓ} {Q : jPost} {LL : Nat} {xs : Nat → Int32} (E : E_L_law LL xs Γ Q) : jSA Γ Q 560 (o_aload 1) 1 := by
  obtain ⟨nm, C⟩ := E.2.2.1
  exact so_aload_n C rfl dL_law_560
theorem oo_L_law_561 {Γ : jΓ} {Q : jPost} {LL : Nat} {xs : Nat → Int32} (E : E_L_law LL xs Γ Q) : jSA Γ Q 561 (o_iload 5) 2 := by
  obtain ⟨nm, C⟩ := E.2.2.1
  exact so_iload C dL_law_561
theorem oo_L_law_563 {Γ : jΓ} {Q : jPost} {LL : Nat} {xs : Nat → Int32} (E : E_L_law LL xs Γ Q) : jSA Γ Q 563 (o_cv0 2 6 T_X6_run) 3 := by
  obtain ⟨nm, C⟩ := E.2.2.1
  exact so_cv0 C (ci := 6) (by rw [E.2.1]; rfl) gL_law_X6_run (by decide +kernel) rfl (by rw [E.2.1]; exact m_X6_run _) (by decide) (by decide) dL_law_563
theorem oo_L_law_566 {Γ : jΓ} {Q : jPost} {LL : Nat} {xs : Nat → Int32} (E : E_L_law LL xs Γ Q) : jSA Γ Q 566 (o_iload 5) 2 := by
  obtain ⟨nm, C⟩ := E.2.2.1
  exact so_iload C dL_law_566
theorem oo_L_law_568 {Γ : jΓ} {Q : jPost} {LL : Nat} {xs : Nat → Int32} (E : E_L_law LL xs Γ Q) : jSA Γ Q 568 (o_ifge 577) 3 := by
  obtain ⟨nm, C⟩ := E.2.2.1
  exact so_ifge C (by decide) dL_law_568
theorem oo_L_law_571 {Γ : jΓ} {Q : jPost} {LL : Nat} {xs : Nat → Int32} (E : E_L_law LL xs Γ Q) : jSA Γ Q 571 (o_iload 5) 2 := by
  obtain ⟨nm, C⟩ := E.2.2.1
  exact so_iload C dL_law_571
theorem oo_L_law_573 {Γ : jΓ} {Q : jPost} {LL : Nat} {xs : Nat → Int32} (E : E_L_law LL xs Γ Q) : jSA Γ Q 573 (o_ineg) 1 := by
  obtain ⟨nm, C⟩ := E.2.2.1
  exact so_ineg C dL_law_573
theorem oo_L_law_574 {Γ : jΓ} {Q : jPost} {LL : Nat} {xs : Nat → Int32} (E : E_L_law LL xs Γ Q) : jSA Γ Q 574 (o_goto 579) 3 := by
  obtain ⟨nm, C⟩ := E.2.2.1
  exact so_goto C (by decide) dL_law_574
theorem oo_L_law_577 {Γ : jΓ} {Q : jPost} {LL : Nat} {xs : Nat → Int32} (E : E_L_law LL xs Γ Q) : jSA Γ Q 577 (o_iload 5) 2 := by
  obtain ⟨nm, C⟩ := E.2.2.1
  exact so_iload C dL_law_577
theorem oo_L_law_579 {Γ : jΓ} {Q : jPost} {LL : Nat} {xs : Nat → Int32} (E : E_L_law LL xs Γ Q) : jSA Γ Q 579 (o_icne 596) 3 := by
  obtain ⟨nm, C⟩ := E.2.2.1
  exact so_icne C (by decide) dL_law_579
theorem oo_L_law_582 {Γ : jΓ} {Q : jPost} {LL : Nat} {xs : Nat → Int32} (E : E_L_law LL xs Γ Q) : jSA Γ Q 582 (o_aload 1) 1 := by
  obtain ⟨nm, C⟩ := E.2.2.1
  exact so_aload_n C rfl dL_law_582
theorem oo_L_law_583 {Γ : jΓ} {Q : jPost} {LL : Nat} {xs : Nat → Int32} (E : E_L_law LL xs Γ Q) : jSA Γ Q 583 (o_cv0 1 6 T_X6_digest) 3 := by
  obtain ⟨nm, C⟩ := E.2.2.1
  exact so_cv0 C (ci := 6) (by rw [E.2.1]; rfl) gL_law_X6_digest (by decide +kernel) rfl (by rw [E.2.1]; exact m_X6_digest _) (by decide) (by decide) dL_law_583
theorem oo_L_law_586 {Γ : jΓ} {Q : jPost} {LL : Nat} {xs : Nat → Int32} (E : E_L_law LL xs Γ Q) : jSA Γ Q 586 (o_lload 6) 2 := by
  obtain ⟨nm, C⟩ := E.2.2.1
  exact so_lload C dL_law_586
theorem oo_L_law_588 {Γ : jΓ} {Q : jPost} {LL : Nat} {xs : Nat → Int32} (E : E_L_law LL xs Γ Q) : jSA Γ Q 588 (o_lcmp) 1 := by
  obtain ⟨nm, C⟩ := E.2.2.1
  exact so_lcmp C dL_law_588
theorem oo_L_law_589 {Γ : jΓ} {Q : jPost} {LL : Nat} {xs : Nat → Int32} (E : E_L_law LL xs Γ Q) : jSA Γ Q 589 (o_ifne 596) 3 := by
  obtain ⟨nm, C⟩ := E.2.2.1
  exact so_ifne C (by decide) dL_law_589
theorem oo_L_law_592 {Γ : jΓ} {Q : jPost} {LL : Nat} {xs : Nat → Int32} (E : E_L_law LL xs Γ Q) : jSA Γ Q 592 (o_ic (1)) 1 := by
  obtain ⟨nm, C⟩ := E.2.2.1
  exact so_iconst C rfl dL_law_592
theorem oo_L_law_593 {Γ : jΓ} {Q : jPost} {LL : Nat} {xs : Nat → Int32} (E : E_L_law LL xs Γ Q) : jSA Γ Q 593 (o_goto 597) 3 := by
  obtain ⟨nm, C⟩ := E.2.2.1
  exact so_goto C (by decide) dL_law_593
theorem oo_L_law_596 {Γ : jΓ} {Q : jPost} {LL : Nat} {xs : Nat → Int32} (E : E_L_law LL xs Γ Q) : jSA Γ Q 596 (o_ic (0)) 1 := by
  obtain ⟨nm, C⟩ := E.2.2.1
  exact so_iconst C rfl dL_law_596
theorem ok_L_law_0 {Γ : jΓ} {Q : jPost} {LL : Nat} {xs : Nat → Int32} (E : E_L_law LL xs Γ Q) : jSS Γ Q 0 (sg_L_law_0 LL xs) := ⟨oo_L_law_0 E, oo_L_law_3 E, oo_L_law_4 E, oo_L_law_7 E, trivial⟩
theorem ok_L_law_8 {Γ : jΓ} {Q : jPost} {LL : Nat} {xs : Nat → Int32} (E : E_L_law LL xs Γ Q) : jSS Γ Q 8 (sg_L_law_8 LL xs) := ⟨oo_L_law_8 E, oo_L_law_9 E, oo_L_law_10 E, trivial⟩
theorem ok_L_law_13 {Γ : jΓ} {Q : jPost} {LL : Nat} {xs : Nat → Int32} (E : E_L_law LL xs Γ Q) : jSS Γ Q 13 (sg_L_law_13 LL xs) := ⟨oo_L_law_13 E, oo_L_law_14 E, oo_L_law_15 E, oo_L_law_16 E, oo_L_law_19 E, oo_L_law_20 E, trivial⟩
theorem ok_L_law_23 {Γ : jΓ} {Q : jPost} {LL : Nat} {xs : Nat → Int32} (E : E_L_law LL xs Γ Q) : jSS Γ Q 23 (sg_L_law_23 LL xs) := ⟨oo_L_law_23 E, oo_L_law_24 E, oo_L_law_25 E, oo_L_law_28 E, trivial⟩
theorem ok_L_law_24 {Γ : jΓ} {Q : jPost} {LL : Nat} {xs : Nat → Int32} (E : E_L_law LL xs Γ Q) : jSS Γ Q 24 (sg_L_law_24 LL xs) := ⟨oo_L_law_24 E, oo_L_law_25 E, oo_L_law_28 E, trivial⟩
theorem ok_L_law_29 {Γ : jΓ} {Q : jPost} {LL : Nat} {xs : Nat → Int32} (E : E_L_law LL xs Γ Q) : jSS Γ Q 29 (sg_L_law_29 LL xs) := ⟨oo_L_law_29 E, trivial⟩
theorem ok_L_law_32 {Γ : jΓ} {Q : jPost} {LL : Nat} {xs : Nat → Int32} (E : E_L_law LL xs Γ Q) : jSS Γ Q 32 (sg_L_law_32 LL xs) := ⟨oo_L_law_32 E, oo_L_law_34 E, oo_L_law_35 E, oo_L_law_38 E, oo_L_law_40 E, trivial⟩
theorem ok_L_law_41 {Γ : jΓ} {Q : jPost} {LL : Nat} {xs : Nat → Int32} (E : E_L_law LL xs Γ Q) : jSS Γ Q 41 (sg_L_law_41 LL xs) := ⟨oo_L_law_41 E, trivial⟩
theorem ok_L_law_44 {Γ : jΓ} {Q : jPost} {LL : Nat} {xs : Nat → Int32} (E : E_L_law LL xs Γ Q) : jSS Γ Q 44 (sg_L_law_44 LL xs) := ⟨oo_L_law_44 E, oo_L_law_45 E, oo_L_law_48 E, trivial⟩
theorem ok_L_law_50 {Γ : jΓ} {Q : jPost} {LL : Nat} {xs : Nat → Int32} (E : E_L_law LL xs Γ Q) : jSS Γ Q 50 (sg_L_law_50 LL xs) := ⟨oo_L_law_50 E, trivial⟩
theorem ok_L_law_53 {Γ : jΓ} {Q : jPost} {LL : Nat} {xs : Nat → Int32} (E : E_L_law LL xs Γ Q) : jSS Γ Q 53 (sg_L_law_53 LL xs) := ⟨oo_L_law_53 E, trivial⟩
theorem ok_L_law_54 {Γ : jΓ} {Q : jPost} {LL : Nat} {xs : Nat → Int32} (E : E_L_law LL xs Γ Q) : jSS Γ Q 54 (sg_L_law_54 LL xs) := ⟨oo_L_law_54 E, trivial⟩
theorem ok_L_law_57 {Γ : jΓ} {Q : jPost} {LL : Nat} {xs : Nat → Int32} (E : E_L_law LL xs Γ Q) : jSS Γ Q 57 (sg_L_law_57 LL xs) := ⟨oo_L_law_57 E, oo_L_law_58 E, oo_L_law_61 E, oo_L_law_62 E, trivial⟩
theorem ok_L_law_65 {Γ : jΓ} {Q : jPost} {LL : Nat} {xs : Nat → Int32} (E : E_L_law LL xs Γ Q) : jSS Γ Q 65 (sg_L_law_65 LL xs) := ⟨oo_L_law_65 E, oo_L_law_66 E, oo_L_law_67 E, oo_L_law_68 E, oo_L_law_70 E, oo_L_law_71 E, trivial⟩
theorem ok_L_law_66 {Γ : jΓ} {Q : jPost} {LL : Nat} {xs : Nat → Int32} (E : E_L_law LL xs Γ Q) : jSS Γ Q 66 (sg_L_law_66 LL xs) := ⟨oo_L_law_66 E, oo_L_law_67 E, oo_L_law_68 E, oo_L_law_70 E, oo_L_law_71 E, trivial⟩
theorem ok_L_law_73 {Γ : jΓ} {Q : jPost} {LL : Nat} {xs : Nat → Int32} (E : E_L_law LL xs Γ Q) : jSS Γ Q 73 (sg_L_law_73 LL xs) := ⟨oo_L_law_73 E, oo_L_law_75 E, oo_L_law_77 E, oo_L_law_80 E, oo_L_law_81 E, oo_L_law_84 E, oo_L_law_85 E, oo_L_law_87 E, oo_L_law_89 E, oo_L_law_90 E, oo_L_law_93 E, trivial⟩
theorem ok_L_law_95 {Γ : jΓ} {Q : jPost} {LL : Nat} {xs : Nat → Int32} (E : E_L_law LL xs Γ Q) : jSS Γ Q 95 (sg_L_law_95 LL xs) := ⟨oo_L_law_95 E, oo_L_law_97 E, oo_L_law_98 E, oo_L_law_99 E, oo_L_law_102 E, oo_L_law_103 E, oo_L_law_105 E, oo_L_law_106 E, oo_L_law_107 E, oo_L_law_110 E, oo_L_law_111 E, oo_L_law_112 E, trivial⟩
theorem ok_L_law_115 {Γ : jΓ} {Q : jPost} {LL : Nat} {xs : Nat → Int32} (E : E_L_law LL xs Γ Q) : jSS Γ Q 115 (sg_L_law_115 LL xs) := ⟨oo_L_law_115 E, oo_L_law_116 E, oo_L_law_118 E, oo_L_law_119 E, oo_L_law_120 E, oo_L_law_123 E, oo_L_law_124 E, oo_L_law_125 E, trivial⟩
theorem ok_L_law_125 {Γ : jΓ} {Q : jPost} {LL : Nat} {xs : Nat → Int32} (E : E_L_law LL xs Γ Q) : jSS Γ Q 125 (sg_L_law_125 LL xs) := ⟨oo_L_law_125 E, trivial⟩
theorem ok_L_law_127 {Γ : jΓ} {Q : jPost} {LL : Nat} {xs : Nat → Int32} (E : E_L_law LL xs Γ Q) : jSS Γ Q 127 (sg_L_law_127 LL xs) := ⟨oo_L_law_127 E, oo_L_law_128 E, trivial⟩
theorem ok_L_law_130 {Γ : jΓ} {Q : jPost} {LL : Nat} {xs : Nat → Int32} (E : E_L_law LL xs Γ Q) : jSS Γ Q 130 (sg_L_law_130 LL xs) := ⟨oo_L_law_130 E, trivial⟩
theorem ok_L_law_133 {Γ : jΓ} {Q : jPost} {LL : Nat} {xs : Nat → Int32} (E : E_L_law LL xs Γ Q) : jSS Γ Q 133 (sg_L_law_133 LL xs) := ⟨oo_L_law_133 E, oo_L_law_135 E, oo_L_law_137 E, oo_L_law_139 E, oo_L_law_142 E, oo_L_law_144 E, oo_L_law_147 E, oo_L_law_149 E, oo_L_law_151 E, oo_L_law_154 E, oo_L_law_156 E, oo_L_law_157 E, trivial⟩
theorem ok_L_law_160 {Γ : jΓ} {Q : jPost} {LL : Nat} {xs : Nat → Int32} (E : E_L_law LL xs Γ Q) : jSS Γ Q 160 (sg_L_law_160 LL xs) := ⟨oo_L_law_160 E, oo_L_law_162 E, oo_L_law_165 E, oo_L_law_166 E, trivial⟩
theorem ok_L_law_162 {Γ : jΓ} {Q : jPost} {LL : Nat} {xs : Nat → Int32} (E : E_L_law LL xs Γ Q) : jSS Γ Q 162 (sg_L_law_162 LL xs) := ⟨oo_L_law_162 E, oo_L_law_165 E, oo_L_law_166 E, trivial⟩
theorem ok_L_law_165 {Γ : jΓ} {Q : jPost} {LL : Nat} {xs : Nat → Int32} (E : E_L_law LL xs Γ Q) : jSS Γ Q 165 (sg_L_law_165 LL xs) := ⟨oo_L_law_165 E, oo_L_law_166 E, trivial⟩
theorem ok_L_law_169 {Γ : jΓ} {Q : jPost} {LL : Nat} {xs : Nat → Int32} (E : E_L_law LL xs Γ Q) : jSS Γ Q 169 (sg_L_law_169 LL xs) := ⟨oo_L_law_169 E, oo_L_law_170 E, trivial⟩
theorem ok_L_law_170 {Γ : jΓ} {Q : jPost} {LL : Nat} {xs : Nat → Int32} (E : E_L_law LL xs Γ Q) : jSS Γ Q 170 (sg_L_law_170 LL xs) := ⟨oo_L_law_170 E, trivial⟩
theorem ok_L_law_171 {Γ : jΓ} {Q : jPost} {LL : Nat} {xs : Nat → Int32} (E : E_L_law LL xs Γ Q) : jSS Γ Q 171 (sg_L_law_171 LL xs) := ⟨oo_L_law_171 E, oo_L_law_173 E, oo_L_law_175 E, oo_L_law_178 E, oo_L_law_179 E, trivial⟩
theorem ok_L_law_182 {Γ : jΓ} {Q : jPost} {LL : Nat} {xs : Nat → Int32} (E : E_L_law LL xs Γ Q) : jSS Γ Q 182 (sg_L_law_182 LL xs) := ⟨oo_L_law_182 E, oo_L_law_184 E, oo_L_law_187 E, oo_L_law_189 E, oo_L_law_190 E, trivial⟩
theorem ok_L_law_193 {Γ : jΓ} {Q : jPost} {LL : Nat} {xs : Nat → Int32} (E : E_L_law LL xs Γ Q) : jSS Γ Q 193 (sg_L_law_193 LL xs) := ⟨oo_L_law_193 E, oo_L_law_195 E, oo_L_law_196 E, trivial⟩
theorem ok_L_law_195 {Γ : jΓ} {Q : jPost} {LL : Nat} {xs : Nat → Int32} (E : E_L_law LL xs Γ Q) : jSS Γ Q 195 (sg_L_law_195 LL xs) := ⟨oo_L_law_195 E, oo_L_law_196 E, trivial⟩
theorem ok_L_law_198 {Γ : jΓ} {Q : jPost} {LL : Nat} {xs : Nat → Int32} (E : E_L_law LL xs Γ Q) : jSS Γ Q 198 (sg_L_law_198 LL xs) := ⟨oo_L_law_198 E, oo_L_law_199 E, oo_L_law_202 E, trivial⟩
theorem ok_L_law_203 {Γ : jΓ} {Q : jPost} {LL : Nat} {xs : Nat → Int32} (E : E_L_law LL xs Γ Q) : jSS Γ Q 203 (sg_L_law_203 LL xs) := ⟨oo_L_law_203 E, trivial⟩
theorem ok_L_law_206 {Γ : jΓ} {Q : jPost} {LL : Nat} {xs : Nat → Int32} (E : E_L_law LL xs Γ Q) : jSS Γ Q 206 (sg_L_law_206 LL xs) := ⟨oo_L_law_206 E, oo_L_law_208 E, oo_L_law_211 E, oo_L_law_212 E, trivial⟩
theorem ok_L_law_215 {Γ : jΓ} {Q : jPost} {LL : Nat} {xs : Nat → Int32} (E : E_L_law LL xs Γ Q) : jSS Γ Q 215 (sg_L_law_215 LL xs) := ⟨oo_L_law_215 E, oo_L_law_216 E, trivial⟩
theorem ok_L_law_216 {Γ : jΓ} {Q : jPost} {LL : Nat} {xs : Nat → Int32} (E : E_L_law LL xs Γ Q) : jSS Γ Q 216 (sg_L_law_216 LL xs) := ⟨oo_L_law_216 E, trivial⟩
theorem ok_L_law_217 {Γ : jΓ} {Q : jPost} {LL : Nat} {xs : Nat → Int32} (E : E_L_law LL xs Γ Q) : jSS Γ Q 217 (sg_L_law_217 LL xs) := ⟨oo_L_law_217 E, oo_L_law_219 E, trivial⟩
theorem ok_L_law_221 {Γ : jΓ} {Q : jPost} {LL : Nat} {xs : Nat → Int32} (E : E_L_law LL xs Γ Q) : jSS Γ Q 221 (sg_L_law_221 LL xs) := ⟨oo_L_law_221 E, trivial⟩
theorem ok_L_law_224 {Γ : jΓ} {Q : jPost} {LL : Nat} {xs : Nat → Int32} (E : E_L_law LL xs Γ Q) : jSS Γ Q 224 (sg_L_law_224 LL xs) := ⟨oo_L_law_224 E, oo_L_law_225 E, trivial⟩
theorem ok_L_law_227 {Γ : jΓ} {Q : jPost} {LL : Nat} {xs : Nat → Int32} (E : E_L_law LL xs Γ Q) : jSS Γ Q 227 (sg_L_law_227 LL xs) := ⟨oo_L_law_227 E, oo_L_law_228 E, oo_L_law_231 E, oo_L_law_233 E, oo_L_law_236 E, oo_L_law_238 E, trivial⟩
theorem ok_L_law_240 {Γ : jΓ} {Q : jPost} {LL : Nat} {xs : Nat → Int32} (E : E_L_law LL xs Γ Q) : jSS Γ Q 240 (sg_L_law_240 LL xs) := ⟨oo_L_law_240 E, trivial⟩
theorem ok_L_law_243 {Γ : jΓ} {Q : jPost} {LL : Nat} {xs : Nat → Int32} (E : E_L_law LL xs Γ Q) : jSS Γ Q 243 (sg_L_law_243 LL xs) := ⟨oo_L_law_243 E, oo_L_law_245 E, oo_L_law_248 E, oo_L_law_250 E, oo_L_law_251 E, trivial⟩
theorem ok_L_law_254 {Γ : jΓ} {Q : jPost} {LL : Nat} {xs : Nat → Int32} (E : E_L_law LL xs Γ Q) : jSS Γ Q 254 (sg_L_law_254 LL xs) := ⟨oo_L_law_254 E, oo_L_law_256 E, trivial⟩
theorem ok_L_law_256 {Γ : jΓ} {Q : jPost} {LL : Nat} {xs : Nat → Int32} (E : E_L_law LL xs Γ Q) : jSS Γ Q 256 (sg_L_law_256 LL xs) := ⟨oo_L_law_256 E, trivial⟩
theorem ok_L_law_259 {Γ : jΓ} {Q : jPost} {LL : Nat} {xs : Nat → Int32} (E : E_L_law LL xs Γ Q) : jSS Γ Q 259 (sg_L_law_259 LL xs) := ⟨oo_L_law_259 E, trivial⟩
theorem ok_L_law_261 {Γ : jΓ} {Q : jPost} {LL : Nat} {xs : Nat → Int32} (E : E_L_law LL xs Γ Q) : jSS Γ Q 261 (sg_L_law_261 LL xs) := ⟨oo_L_law_261 E, trivial⟩
theorem ok_L_law_264 {Γ : jΓ} {Q : jPost} {LL : Nat} {xs : Nat → Int32} (E : E_L_law LL xs Γ Q) : jSS Γ Q 264 (sg_L_law_264 LL xs) := ⟨oo_L_law_264 E, oo_L_law_266 E, oo_L_law_269 E, trivial⟩
theorem ok_L_law_271 {Γ : jΓ} {Q : jPost} {LL : Nat} {xs : Nat → Int32} (E : E_L_law LL xs Γ Q) : jSS Γ Q 271 (sg_L_law_271 LL xs) := ⟨oo_L_law_271 E, trivial⟩
theorem ok_L_law_274 {Γ : jΓ} {Q : jPost} {LL : Nat} {xs : Nat → Int32} (E : E_L_law LL xs Γ Q) : jSS Γ Q 274 (sg_L_law_274 LL xs) := ⟨oo_L_law_274 E, trivial⟩
theorem ok_L_law_275 {Γ : jΓ} {Q : jPost} {LL : Nat} {xs : Nat → Int32} (E : E_L_law LL xs Γ Q) : jSS Γ Q 275 (sg_L_law_275 LL xs) := ⟨oo_L_law_275 E, trivial⟩
theorem ok_L_law_278 {Γ : jΓ} {Q : jPost} {LL : Nat} {xs : Nat → Int32} (E : E_L_law LL xs Γ Q) : jSS Γ Q 278 (sg_L_law_278 LL xs) := ⟨oo_L_law_278 E, oo_L_law_279 E, oo_L_law_282 E, oo_L_law_283 E, trivial⟩
theorem ok_L_law_286 {Γ : jΓ} {Q : jPost} {LL : Nat} {xs : Nat → Int32} (E : E_L_law LL xs Γ Q) : jSS Γ Q 286 (sg_L_law_286 LL xs) := ⟨oo_L_law_286 E, oo_L_law_287 E, trivial⟩
theorem ok_L_law_287 {Γ : jΓ} {Q : jPost} {LL : Nat} {xs : Nat → Int32} (E : E_L_law LL xs Γ Q) : jSS Γ Q 287 (sg_L_law_287 LL xs) := ⟨oo_L_law_287 E, trivial⟩
theorem ok_L_law_288 {Γ : jΓ} {Q : jPost} {LL : Nat} {xs : Nat → Int32} (E : E_L_law LL xs Γ Q) : jSS Γ Q 288 (sg_L_law_288 LL xs) := ⟨oo_L_law_288 E, oo_L_law_289 E, trivial⟩
theorem ok_L_law_291 {Γ : jΓ} {Q : jPost} {LL : Nat} {xs : Nat → Int32} (E : E_L_law LL xs Γ Q) : jSS Γ Q 291 (sg_L_law_291 LL xs) := ⟨oo_L_law_291 E, oo_L_law_293 E, oo_L_law_294 E, trivial⟩
theorem ok_L_law_295 {Γ : jΓ} {Q : jPost} {LL : Nat} {xs : Nat → Int32} (E : E_L_law LL xs Γ Q) : jSS Γ Q 295 (sg_L_law_295 LL xs) := ⟨oo_L_law_295 E, trivial⟩
theorem ok_L_law_298 {Γ : jΓ} {Q : jPost} {LL : Nat} {xs : Nat → Int32} (E : E_L_law LL xs Γ Q) : jSS Γ Q 298 (sg_L_law_298 LL xs) := ⟨oo_L_law_298 E, oo_L_law_301 E, oo_L_law_302 E, oo_L_law_305 E, oo_L_law_306 E, oo_L_law_308 E, trivial⟩
theorem ok_L_law_309 {Γ : jΓ} {Q : jPost} {LL : Nat} {xs : Nat → Int32} (E : E_L_law LL xs Γ Q) : jSS Γ Q 309 (sg_L_law_309 LL xs) := ⟨oo_L_law_309 E, trivial⟩
theorem ok_L_law_312 {Γ : jΓ} {Q : jPost} {LL : Nat} {xs : Nat → Int32} (E : E_L_law LL xs Γ Q) : jSS Γ Q 312 (sg_L_law_312 LL xs) := ⟨oo_L_law_312 E, oo_L_law_314 E, oo_L_law_316 E, trivial⟩
theorem ok_L_law_317 {Γ : jΓ} {Q : jPost} {LL : Nat} {xs : Nat → Int32} (E : E_L_law LL xs Γ Q) : jSS Γ Q 317 (sg_L_law_317 LL xs) := ⟨oo_L_law_317 E, trivial⟩
theorem ok_L_law_320 {Γ : jΓ} {Q : jPost} {LL : Nat} {xs : Nat → Int32} (E : E_L_law LL xs Γ Q) : jSS Γ Q 320 (sg_L_law_320 LL xs) := ⟨oo_L_law_320 E, oo_L_law_323 E, oo_L_law_324 E, oo_L_law_326 E, trivial⟩
theorem ok_L_law_327 {Γ : jΓ} {Q : jPost} {LL : Nat} {xs : Nat → Int32} (E : E_L_law LL xs Γ Q) : jSS Γ Q 327 (sg_L_law_327 LL xs) := ⟨oo_L_law_327 E, trivial⟩
theorem ok_L_law_330 {Γ : jΓ} {Q : jPost} {LL : Nat} {xs : Nat → Int32} (E : E_L_law LL xs Γ Q) : jSS Γ Q 330 (sg_L_law_330 LL xs) := ⟨oo_L_law_330 E, oo_L_law_332 E, oo_L_law_334 E, trivial⟩
theorem ok_L_law_335 {Γ : jΓ} {Q : jPost} {LL : Nat} {xs : Nat → Int32} (E : E_L_law LL xs Γ Q) : jSS Γ Q 335 (sg_L_law_335 LL xs) := ⟨oo_L_law_335 E, trivial⟩
theorem ok_L_law_338 {Γ : jΓ} {Q : jPost} {LL : Nat} {xs : Nat → Int32} (E : E_L_law LL xs Γ Q) : jSS Γ Q 338 (sg_L_law_338 LL xs) := ⟨oo_L_law_338 E, oo_L_law_341 E, oo_L_law_342 E, oo_L_law_344 E, trivial⟩
theorem ok_L_law_345 {Γ : jΓ} {Q : jPost} {LL : Nat} {xs : Nat → Int32} (E : E_L_law LL xs Γ Q) : jSS Γ Q 345 (sg_L_law_345 LL xs) := ⟨oo_L_law_345 E, trivial⟩
theorem ok_L_law_348 {Γ : jΓ} {Q : jPost} {LL : Nat} {xs : Nat → Int32} (E : E_L_law LL xs Γ Q) : jSS Γ Q 348 (sg_L_law_348 LL xs) := ⟨oo_L_law_348 E, oo_L_law_350 E, oo_L_law_352 E, trivial⟩
theorem ok_L_law_353 {Γ : jΓ} {Q : jPost} {LL : Nat} {xs : Nat → Int32} (E : E_L_law LL xs Γ Q) : jSS Γ Q 353 (sg_L_law_353 LL xs) := ⟨oo_L_law_353 E, trivial⟩
theorem ok_L_law_356 {Γ : jΓ} {Q : jPost} {LL : Nat} {xs : Nat → Int32} (E : E_L_law LL xs Γ Q) : jSS Γ Q 356 (sg_L_law_356 LL xs) := ⟨oo_L_law_356 E, oo_L_law_359 E, oo_L_law_360 E, oo_L_law_361 E, oo_L_law_363 E, trivial⟩
theorem ok_L_law_364 {Γ : jΓ} {Q : jPost} {LL : Nat} {xs : Nat → Int32} (E : E_L_law LL xs Γ Q) : jSS Γ Q 364 (sg_L_law_364 LL xs) := ⟨oo_L_law_364 E, trivial⟩
theorem ok_L_law_367 {Γ : jΓ} {Q : jPost} {LL : Nat} {xs : Nat → Int32} (E : E_L_law LL xs Γ Q) : jSS Γ Q 367 (sg_L_law_367 LL xs) := ⟨oo_L_law_367 E, oo_L_law_368 E, oo_L_law_370 E, trivial⟩
theorem ok_L_law_371 {Γ : jΓ} {Q : jPost} {LL : Nat} {xs : Nat → Int32} (E : E_L_law LL xs Γ Q) : jSS Γ Q 371 (sg_L_law_371 LL xs) := ⟨oo_L_law_371 E, trivial⟩
theorem ok_L_law_374 {Γ : jΓ} {Q : jPost} {LL : Nat} {xs : Nat → Int32} (E : E_L_law LL xs Γ Q) : jSS Γ Q 374 (sg_L_law_374 LL xs) := ⟨oo_L_law_374 E, trivial⟩
theorem ok_L_law_377 {Γ : jΓ} {Q : jPost} {LL : Nat} {xs : Nat → Int32} (E : E_L_law LL xs Γ Q) : jSS Γ Q 377 (sg_L_law_377 LL xs) := ⟨oo_L_law_377 E, oo_L_law_379 E, oo_L_law_380 E, oo_L_law_382 E, trivial⟩
theorem ok_L_law_383 {Γ : jΓ} {Q : jPost} {LL : Nat} {xs : Nat → Int32} (E : E_L_law LL xs Γ Q) : jSS Γ Q 383 (sg_L_law_383 LL xs) := ⟨oo_L_law_383 E, trivial⟩
theorem ok_L_law_386 {Γ : jΓ} {Q : jPost} {LL : Nat} {xs : Nat → Int32} (E : E_L_law LL xs Γ Q) : jSS Γ Q 386 (sg_L_law_386 LL xs) := ⟨oo_L_law_386 E, oo_L_law_387 E, oo_L_law_389 E, trivial⟩
theorem ok_L_law_390 {Γ : jΓ} {Q : jPost} {LL : Nat} {xs : Nat → Int32} (E : E_L_law LL xs Γ Q) : jSS Γ Q 390 (sg_L_law_390 LL xs) := ⟨oo_L_law_390 E, trivial⟩
theorem ok_L_law_393 {Γ : jΓ} {Q : jPost} {LL : Nat} {xs : Nat → Int32} (E : E_L_law LL xs Γ Q) : jSS Γ Q 393 (sg_L_law_393 LL xs) := ⟨oo_L_law_393 E, trivial⟩
theorem ok_L_law_396 {Γ : jΓ} {Q : jPost} {LL : Nat} {xs : Nat → Int32} (E : E_L_law LL xs Γ Q) : jSS Γ Q 396 (sg_L_law_396 LL xs) := ⟨oo_L_law_396 E, oo_L_law_399 E, oo_L_law_400 E, trivial⟩
theorem ok_L_law_403 {Γ : jΓ} {Q : jPost} {LL : Nat} {xs : Nat → Int32} (E : E_L_law LL xs Γ Q) : jSS Γ Q 403 (sg_L_law_403 LL xs) := ⟨oo_L_law_403 E, oo_L_law_404 E, oo_L_law_405 E, oo_L_law_408 E, trivial⟩
theorem ok_L_law_404 {Γ : jΓ} {Q : jPost} {LL : Nat} {xs : Nat → Int32} (E : E_L_law LL xs Γ Q) : jSS Γ Q 404 (sg_L_law_404 LL xs) := ⟨oo_L_law_404 E, oo_L_law_405 E, oo_L_law_408 E, trivial⟩
theorem ok_L_law_411 {Γ : jΓ} {Q : jPost} {LL : Nat} {xs : Nat → Int32} (E : E_L_law LL xs Γ Q) : jSS Γ Q 411 (sg_L_law_411 LL xs) := ⟨oo_L_law_411 E, oo_L_law_412 E, oo_L_law_415 E, oo_L_law_416 E, trivial⟩
theorem ok_L_law_417 {Γ : jΓ} {Q : jPost} {LL : Nat} {xs : Nat → Int32} (E : E_L_law LL xs Γ Q) : jSS Γ Q 417 (sg_L_law_417 LL xs) := ⟨oo_L_law_417 E, trivial⟩
theorem ok_L_law_420 {Γ : jΓ} {Q : jPost} {LL : Nat} {xs : Nat → Int32} (E : E_L_law LL xs Γ Q) : jSS Γ Q 420 (sg_L_law_420 LL xs) := ⟨oo_L_law_420 E, oo_L_law_422 E, trivial⟩
theorem ok_L_law_423 {Γ : jΓ} {Q : jPost} {LL : Nat} {xs : Nat → Int32} (E : E_L_law LL xs Γ Q) : jSS Γ Q 423 (sg_L_law_423 LL xs) := ⟨oo_L_law_423 E, trivial⟩
theorem ok_L_law_426 {Γ : jΓ} {Q : jPost} {LL : Nat} {xs : Nat → Int32} (E : E_L_law LL xs Γ Q) : jSS Γ Q 426 (sg_L_law_426 LL xs) := ⟨oo_L_law_426 E, trivial⟩
theorem ok_L_law_429 {Γ : jΓ} {Q : jPost} {LL : Nat} {xs : Nat → Int32} (E : E_L_law LL xs Γ Q) : jSS Γ Q 429 (sg_L_law_429 LL xs) := ⟨oo_L_law_429 E, oo_L_law_431 E, oo_L_law_434 E, oo_L_law_436 E, oo_L_law_438 E, oo_L_law_441 E, oo_L_law_443 E, oo_L_law_444 E, trivial⟩
theorem ok_L_law_447 {Γ : jΓ} {Q : jPost} {LL : Nat} {xs : Nat → Int32} (E : E_L_law LL xs Γ Q) : jSS Γ Q 447 (sg_L_law_447 LL xs) := ⟨oo_L_law_447 E, oo_L_law_449 E, trivial⟩
theorem ok_L_law_449 {Γ : jΓ} {Q : jPost} {LL : Nat} {xs : Nat → Int32} (E : E_L_law LL xs Γ Q) : jSS Γ Q 449 (sg_L_law_449 LL xs) := ⟨oo_L_law_449 E, trivial⟩
theorem ok_L_law_452 {Γ : jΓ} {Q : jPost} {LL : Nat} {xs : Nat → Int32} (E : E_L_law LL xs Γ Q) : jSS Γ Q 452 (sg_L_law_452 LL xs) := ⟨oo_L_law_452 E, oo_L_law_453 E, oo_L_law_455 E, oo_L_law_458 E, oo_L_law_459 E, trivial⟩
theorem ok_L_law_462 {Γ : jΓ} {Q : jPost} {LL : Nat} {xs : Nat → Int32} (E : E_L_law LL xs Γ Q) : jSS Γ Q 462 (sg_L_law_462 LL xs) := ⟨oo_L_law_462 E, trivial⟩
theorem ok_L_law_463 {Γ : jΓ} {Q : jPost} {LL : Nat} {xs : Nat → Int32} (E : E_L_law LL xs Γ Q) : jSS Γ Q 463 (sg_L_law_463 LL xs) := ⟨oo_L_law_463 E, trivial⟩
theorem ok_L_law_466 {Γ : jΓ} {Q : jPost} {LL : Nat} {xs : Nat → Int32} (E : E_L_law LL xs Γ Q) : jSS Γ Q 466 (sg_L_law_466 LL xs) := ⟨oo_L_law_466 E, oo_L_law_468 E, oo_L_law_471 E, trivial⟩
theorem ok_L_law_472 {Γ : jΓ} {Q : jPost} {LL : Nat} {xs : Nat → Int32} (E : E_L_law LL xs Γ Q) : jSS Γ Q 472 (sg_L_law_472 LL xs) := ⟨oo_L_law_472 E, trivial⟩
theorem ok_L_law_475 {Γ : jΓ} {Q : jPost} {LL : Nat} {xs : Nat → Int32} (E : E_L_law LL xs Γ Q) : jSS Γ Q 475 (sg_L_law_475 LL xs) := ⟨oo_L_law_475 E, oo_L_law_477 E, oo_L_law_480 E, oo_L_law_481 E, trivial⟩
theorem ok_L_law_480 {Γ : jΓ} {Q : jPost} {LL : Nat} {xs : Nat → Int32} (E : E_L_law LL xs Γ Q) : jSS Γ Q 480 (sg_L_law_480 LL xs) := ⟨oo_L_law_480 E, oo_L_law_481 E, trivial⟩
theorem ok_L_law_484 {Γ : jΓ} {Q : jPost} {LL : Nat} {xs : Nat → Int32} (E : E_L_law LL xs Γ Q) : jSS Γ Q 484 (sg_L_law_484 LL xs) := ⟨oo_L_law_484 E, trivial⟩
theorem ok_L_law_485 {Γ : jΓ} {Q : jPost} {LL : Nat} {xs : Nat → Int32} (E : E_L_law LL xs Γ Q) : jSS Γ Q 485 (sg_L_law_485 LL xs) := ⟨oo_L_law_485 E, oo_L_law_486 E, oo_L_law_489 E, trivial⟩
theorem ok_L_law_492 {Γ : jΓ} {Q : jPost} {LL : Nat} {xs : Nat → Int32} (E : E_L_law LL xs Γ Q) : jSS Γ Q 492 (sg_L_law_492 LL xs) := ⟨oo_L_law_492 E, trivial⟩
theorem ok_L_law_493 {Γ : jΓ} {Q : jPost} {LL : Nat} {xs : Nat → Int32} (E : E_L_law LL xs Γ Q) : jSS Γ Q 493 (sg_L_law_493 LL xs) := ⟨oo_L_law_493 E, trivial⟩
theorem ok_L_law_496 {Γ : jΓ} {Q : jPost} {LL : Nat} {xs : Nat → Int32} (E : E_L_law LL xs Γ Q) : jSS Γ Q 496 (sg_L_law_496 LL xs) := ⟨oo_L_law_496 E, trivial⟩
theorem ok_L_law_498 {Γ : jΓ} {Q : jPost} {LL : Nat} {xs : Nat → Int32} (E : E_L_law LL xs Γ Q) : jSS Γ Q 498 (sg_L_law_498 LL xs) := ⟨oo_L_law_498 E, oo_L_law_499 E, oo_L_law_502 E, oo_L_law_504 E, oo_L_law_507 E, oo_L_law_508 E, oo_L_law_510 E, trivial⟩
theorem ok_L_law_511 {Γ : jΓ} {Q : jPost} {LL : Nat} {xs : Nat → Int32} (E : E_L_law LL xs Γ Q) : jSS Γ Q 511 (sg_L_law_511 LL xs) := ⟨oo_L_law_511 E, trivial⟩
theorem ok_L_law_514 {Γ : jΓ} {Q : jPost} {LL : Nat} {xs : Nat → Int32} (E : E_L_law LL xs Γ Q) : jSS Γ Q 514 (sg_L_law_514 LL xs) := ⟨oo_L_law_514 E, oo_L_law_516 E, oo_L_law_519 E, oo_L_law_521 E, oo_L_law_522 E, trivial⟩
theorem ok_L_law_525 {Γ : jΓ} {Q : jPost} {LL : Nat} {xs : Nat → Int32} (E : E_L_law LL xs Γ Q) : jSS Γ Q 525 (sg_L_law_525 LL xs) := ⟨oo_L_law_525 E, oo_L_law_527 E, trivial⟩
theorem ok_L_law_527 {Γ : jΓ} {Q : jPost} {LL : Nat} {xs : Nat → Int32} (E : E_L_law LL xs Γ Q) : jSS Γ Q 527 (sg_L_law_527 LL xs) := ⟨oo_L_law_527 E, trivial⟩
theorem ok_L_law_530 {Γ : jΓ} {Q : jPost} {LL : Nat} {xs : Nat → Int32} (E : E_L_law LL xs Γ Q) : jSS Γ Q 530 (sg_L_law_530 LL xs) := ⟨oo_L_law_530 E, trivial⟩
theorem ok_L_law_531 {Γ : jΓ} {Q : jPost} {LL : Nat} {xs : Nat → Int32} (E : E_L_law LL xs Γ Q) : jSS Γ Q 531 (sg_L_law_531 LL xs) := ⟨oo_L_law_531 E, trivial⟩
theorem ok_L_law_534 {Γ : jΓ} {Q : jPost} {LL : Nat} {xs : Nat → Int32} (E : E_L_law LL xs Γ Q) : jSS Γ Q 534 (sg_L_law_534 LL xs) := ⟨oo_L_law_534 E, oo_L_law_537 E, oo_L_law_538 E, trivial⟩
theorem ok_L_law_539 {Γ : jΓ} {Q : jPost} {LL : Nat} {xs : Nat → Int32} (E : E_L_law LL xs Γ Q) : jSS Γ Q 539 (sg_L_law_539 LL xs) := ⟨oo_L_law_539 E, trivial⟩
theorem ok_L_law_542 {Γ : jΓ} {Q : jPost} {LL : Nat} {xs : Nat → Int32} (E : E_L_law LL xs Γ Q) : jSS Γ Q 542 (sg_L_law_542 LL xs) := ⟨oo_L_law_542 E, oo_L_law_545 E, oo_L_law_546 E, trivial⟩
theorem ok_L_law_549 {Γ : jΓ} {Q : jPost} {LL : Nat} {xs : Nat → Int32} (E : E_L_law LL xs Γ Q) : jSS Γ Q 549 (sg_L_law_549 LL xs) := ⟨oo_L_law_549 E, oo_L_law_550 E, trivial⟩
theorem ok_L_law_550 {Γ : jΓ} {Q : jPost} {LL : Nat} {xs : Nat → Int32} (E : E_L_law LL xs Γ Q) : jSS Γ Q 550 (sg_L_law_550 LL xs) := ⟨oo_L_law_550 E, trivial⟩
theorem ok_L_law_551 {Γ : jΓ} {Q : jPost} {LL : Nat} {xs : Nat → Int32} (E : E_L_law LL xs Γ Q) : jSS Γ Q 551 (sg_L_law_551 LL xs) := ⟨oo_L_law_551 E, oo_L_law_552 E, oo_L_law_555 E, oo_L_law_557 E, oo_L_law_560 E, oo_L_law_561 E, trivial⟩
theorem ok_L_law_563 {Γ : jΓ} {Q : jPost} {LL : Nat} {xs : Nat → Int32} (E : E_L_law LL xs Γ Q) : jSS Γ Q 563 (sg_L_law_563 LL xs) := ⟨oo_L_law_563 E, trivial⟩
theorem ok_L_law_566 {Γ : jΓ} {Q : jPost} {LL : Nat} {xs : Nat → Int32} (E : E_L_law LL xs Γ Q) : jSS Γ Q 566 (sg_L_law_566 LL xs) := ⟨oo_L_law_566 E, oo_L_law_568 E, oo_L_law_571 E, oo_L_law_573 E, oo_L_law_574 E, trivial⟩
theorem ok_L_law_577 {Γ : jΓ} {Q : jPost} {LL : Nat} {xs : Nat → Int32} (E : E_L_law LL xs Γ Q) : jSS Γ Q 577 (sg_L_law_577 LL xs) := ⟨oo_L_law_577 E, oo_L_law_579 E, trivial⟩
theorem ok_L_law_579 {Γ : jΓ} {Q : jPost} {LL : Nat} {xs : Nat → Int32} (E : E_L_law LL xs Γ Q) : jSS Γ Q 579 (sg_L_law_579 LL xs) := ⟨oo_L_law_579 E, trivial⟩
theorem ok_L_law_582 {Γ : jΓ} {Q : jPost} {LL : Nat} {xs : Nat → Int32} (E : E_L_law LL xs Γ Q) : jSS Γ Q 582 (sg_L_law_582 LL xs) := ⟨oo_L_law_582 E, trivial⟩
theorem ok_L_law_583 {Γ : jΓ} {Q : jPost} {LL : Nat} {xs : Nat → Int32} (E : E_L_law LL xs Γ Q) : jSS Γ Q 583 (sg_L_law_583 LL xs) := ⟨oo_L_law_583 E, trivial⟩
theorem ok_L_law_586 {Γ : jΓ} {Q : jPost} {LL : Nat} {xs : Nat → Int32} (E : E_L_law LL xs Γ Q) : jSS Γ Q 586 (sg_L_law_586 LL xs) := ⟨oo_L_law_586 E, oo_L_law_588 E, oo_L_law_589 E, oo_L_law_592 E, oo_L_law_593 E, trivial⟩
theorem ok_L_law_596 {Γ : jΓ} {Q : jPost} {LL : Nat} {xs : Nat → Int32} (E : E_L_law LL xs Γ Q) : jSS Γ Q 596 (sg_L_law_596 LL xs) := ⟨oo_L_law_596 E, trivial⟩
theorem okc_L_law {Γ : jΓ} {Q : jPost} {LL : Nat} {xs : Nat → Int32} (E : E_L_law LL xs Γ Q) (t : Nat) : jSS Γ Q t (cd_L_law LL xs t) := by
  unfold cd_L_law
  split
  · exact ok_L_law_23 E
  · exact ok_L_law_24 E
  · exact ok_L_law_65 E
  · exact ok_L_law_66 E
  · exact ok_L_law_115 E
  · exact ok_L_law_125 E
  · exact ok_L_law_160 E
  · exact ok_L_law_162 E
  · exact ok_L_law_165 E
  · exact ok_L_law_169 E
  · exact ok_L_law_170 E
  · exact ok_L_law_182 E
  · exact ok_L_law_193 E
  · exact ok_L_law_195 E
  · exact ok_L_law_215 E
  · exact ok_L_law_216 E
  · exact ok_L_law_254 E
  · exact ok_L_law_256 E
  · exact ok_L_law_286 E
  · exact ok_L_law_287 E
  · exact ok_L_law_403 E
  · exact ok_L_law_404 E
  · exact ok_L_law_447 E
  · exact ok_L_law_449 E
  · exact ok_L_law_462 E
  · exact ok_L_law_480 E
  · exact ok_L_law_484 E
  · exact ok_L_law_525 E
  · exact ok_L_law_527 E
  · exact ok_L_law_549 E
  · exact ok_L_law_550 E
  · exact ok_L_law_577 E
  · exact ok_L_law_579 E
  · exact ok_L_law_596 E
  · trivial
theorem H_L_law_0 {Γ : jΓ} {Q : jPost} {LL : Nat} {xs : Nat → Int32} (E : E_L_law LL xs Γ Q) (n : Nat) (L : jL) (st : List Value) (K : List jK) (h : jM) (ce sl : Nat) (hw : jwp (cd_L_law LL xs) (jG Γ) Q n (sg_L_law_0 LL xs) 0 L st K h ce sl) : jG Γ 0 L st K h ce sl := jwp_ok (okc_L_law E) n (sg_L_law_0 LL xs) 0 (ok_L_law_0 E) L st K h ce sl hw
theorem H_L_law_8 {Γ : jΓ} {Q : jPost} {LL : Nat} {xs : Nat → Int32} (E : E_L_law LL xs Γ Q) (n : Nat) (L : jL) (st : List Value) (K : List jK) (h : jM) (ce sl : Nat) (hw : jwp (cd_L_law LL xs) (jG Γ) Q n (sg_L_law_8 LL xs) 8 L st K h ce sl) : jG Γ 8 L st K h ce sl := jwp_ok (okc_L_law E) n (sg_L_law_8 LL xs) 8 (ok_L_law_8 E) L st K h ce sl hw
theorem H_L_law_13 {Γ : jΓ} {Q : jPost} {LL : Nat} {xs : Nat → Int32} (E : E_L_law LL xs Γ Q) (n : Nat) (L : jL) (st : List Value) (K : List jK) (h : jM) (ce sl : Nat) (hw : jwp (cd_L_law LL xs) (jG Γ) Q n (sg_L_law_13 LL xs) 13 L st K h ce sl) : jG Γ 13 L st K h ce sl := jwp_ok (okc_L_law E) n (sg_L_law_13 LL xs) 13 (ok_L_law_13 E) L st K h ce sl hw
theorem H_L_law_29 {Γ : jΓ} {Q : jPost} {LL : Nat} {xs : Nat → Int32} (E : E_L_law LL xs Γ Q) (n : Nat) (L : jL) (st : List Value) (K : List jK) (h : jM) (ce sl : Nat) (hw : jwp (cd_L_law LL xs) (jG Γ) Q n (sg_L_law_29 LL xs) 29 L st K h ce sl) : jG Γ 29 L st K h ce sl := jwp_ok (okc_L_law E) n (sg_L_law_29 LL xs) 29 (ok_L_law_29 E) L st K h ce sl hw
theorem H_L_law_32 {Γ : jΓ} {Q : jPost} {LL : Nat} {xs : Nat → Int32} (E : E_L_law LL xs Γ Q) (n : Nat) (L : jL) (st : List Value) (K : List jK) (h : jM) (ce sl : Nat) (hw : jwp (cd_L_law LL xs) (jG Γ) Q n (sg_L_law_32 LL xs) 32 L st K h ce sl) : jG Γ 32 L st K h ce sl := jwp_ok (okc_L_law E) n (sg_L_law_32 LL xs) 32 (ok_L_law_32 E) L st K h ce sl hw
theorem H_L_law_41 {Γ : jΓ} {Q : jPost} {LL : Nat} {xs : Nat → Int32} (E : E_L_law LL xs Γ Q) (n : Nat) (L : jL) (st : List Value) (K : List jK) (h : jM) (ce sl : Nat) (hw : jwp (cd_L_law LL xs) (jG Γ) Q n (sg_L_law_41 LL xs) 41 L st K h ce sl) : jG Γ 41 L st K h ce sl := jwp_ok (okc_L_law E) n (sg_L_law_41 LL xs) 41 (ok_L_law_41 E) L st K h ce sl hw
theorem H_L_law_44 {Γ : jΓ} {Q : jPost} {LL : Nat} {xs : Nat → Int32} (E : E_L_law LL xs Γ Q) (n : Nat) (L : jL) (st : List Value) (K : List jK) (h : jM) (ce sl : Nat) (hw : jwp (cd_L_law LL xs) (jG Γ) Q n (sg_L_law_44 LL xs) 44 L st K h ce sl) : jG Γ 44 L st K h ce sl := jwp_ok (okc_L_law E) n (sg_L_law_44 LL xs) 44 (ok_L_law_44 E) L st K h ce sl hw
theorem H_L_law_50 {Γ : jΓ} {Q : jPost} {LL : Nat} {xs : Nat → Int32} (E : E_L_law LL xs Γ Q) (n : Nat) (L : jL) (st : List Value) (K : List jK) (h : jM) (ce sl : Nat) (hw : jwp (cd_L_law LL xs) (jG Γ) Q n (sg_L_law_50 LL xs) 50 L st K h ce sl) : jG Γ 50 L st K h ce sl := jwp_ok (okc_L_law E) n (sg_L_law_50 LL xs) 50 (ok_L_law_50 E) L st K h ce sl hw
theorem H_L_law_53 {Γ : jΓ} {Q : jPost} {LL : Nat} {xs : Nat → Int32} (E : E_L_law LL xs Γ Q) (n : Nat) (L : jL) (st : List Value) (K : List jK) (h : jM) (ce sl : Nat) (hw : jwp (cd_L_law LL xs) (jG Γ) Q n (sg_L_law_53 LL xs) 53 L st K h ce sl) : jG Γ 53 L st K h ce sl := jwp_ok (okc_L_law E) n (sg_L_law_53 LL xs) 53 (ok_L_law_53 E) L st K h ce sl hw
theorem H_L_law_54 {Γ : jΓ} {Q : jPost} {LL : Nat} {xs : Nat → Int32} (E : E_L_law LL xs Γ Q) (n : Nat) (L : jL) (st : List Value) (K : List jK) (h : jM) (ce sl : Nat) (hw : jwp (cd_L_law LL xs) (jG Γ) Q n (sg_L_law_54 LL xs) 54 L st K h ce sl) : jG Γ 54 L st K h ce sl := jwp_ok (okc_L_law E) n (sg_L_law_54 LL xs) 54 (ok_L_law_54 E) L st K h ce sl hw
theorem H_L_law_57 {Γ : jΓ} {Q : jPost} {LL : Nat} {xs : Nat → Int32} (E : E_L_law LL xs Γ Q) (n : Nat) (L : jL) (st : List Value) (K : List jK) (h : jM) (ce sl : Nat) (hw : jwp (cd_L_law LL xs) (jG Γ) Q n (sg_L_law_57 LL xs) 57 L st K h ce sl) : jG Γ 57 L st K h ce sl := jwp_ok (okc_L_law E) n (sg_L_law_57 LL xs) 57 (ok_L_law_57 E) L st K h ce sl hw
theorem H_L_law_73 {Γ : jΓ} {Q : jPost} {LL : Nat} {xs : Nat → Int32} (E : E_L_law LL xs Γ Q) (n : Nat) (L : jL) (st : List Value) (K : List jK) (h : jM) (ce sl : Nat) (hw : jwp (cd_L_law LL xs) (jG Γ) Q n (sg_L_law_73 LL xs) 73 L st K h ce sl) : jG Γ 73 L st K h ce sl := jwp_ok (okc_L_law E) n (sg_L_law_73 LL xs) 73 (ok_L_law_73 E) L st K h ce sl hw
theorem H_L_law_95 {Γ : jΓ} {Q : jPost} {LL : Nat} {xs : Nat → Int32} (E : E_L_law LL xs Γ Q) (n : Nat) (L : jL) (st : List Value) (K : List jK) (h : jM) (ce sl : Nat) (hw : jwp (cd_L_law LL xs) (jG Γ) Q n (sg_L_law_95 LL xs) 95 L st K h ce sl) : jG Γ 95 L st K h ce sl := jwp_ok (okc_L_law E) n (sg_L_law_95 LL xs) 95 (ok_L_law_95 E) L st K h ce sl hw
theorem H_L_law_127 {Γ : jΓ} {Q : jPost} {LL : Nat} {xs : Nat → Int32} (E : E_L_law LL xs Γ Q) (n : Nat) (L : jL) (st : List Value) (K : List jK) (h : jM) (ce sl : Nat) (hw : jwp (cd_L_law LL xs) (jG Γ) Q n (sg_L_law_127 LL xs) 127 L st K h ce sl) : jG Γ 127 L st K h ce sl := jwp_ok (okc_L_law E) n (sg_L_law_127 LL xs) 127 (ok_L_law_127 E) L st K h ce sl hw
theorem H_L_law_130 {Γ : jΓ} {Q : jPost} {LL : Nat} {xs : Nat → Int32} (E : E_L_law LL xs Γ Q) (n : Nat) (L : jL) (st : List Value) (K : List jK) (h : jM) (ce sl : Nat) (hw : jwp (cd_L_law LL xs) (jG Γ) Q n (sg_L_law_130 LL xs) 130 L st K h ce sl) : jG Γ 130 L st K h ce sl := jwp_ok (okc_L_law E) n (sg_L_law_130 LL xs) 130 (ok_L_law_130 E) L st K h ce sl hw
theorem H_L_law_133 {Γ : jΓ} {Q : jPost} {LL : Nat} {xs : Nat → Int32} (E : E_L_law LL xs Γ Q) (n : Nat) (L : jL) (st : List Value) (K : List jK) (h : jM) (ce sl : Nat) (hw : jwp (cd_L_law LL xs) (jG Γ) Q n (sg_L_law_133 LL xs) 133 L st K h ce sl) : jG Γ 133 L st K h ce sl := jwp_ok (okc_L_law E) n (sg_L_law_133 LL xs) 133 (ok_L_law_133 E) L st K h ce sl hw
theorem H_L_law_171 {Γ : jΓ} {Q : jPost} {LL : Nat} {xs : Nat → Int32} (E : E_L_law LL xs Γ Q) (n : Nat) (L : jL) (st : List Value) (K : List jK) (h : jM) (ce sl : Nat) (hw : jwp (cd_L_law LL xs) (jG Γ) Q n (sg_L_law_171 LL xs) 171 L st K h ce sl) : jG Γ 171 L st K h ce sl := jwp_ok (okc_L_law E) n (sg_L_law_171 LL xs) 171 (ok_L_law_171 E) L st K h ce sl hw
theorem H_L_law_198 {Γ : jΓ} {Q : jPost} {LL : Nat} {xs : Nat → Int32} (E : E_L_law LL xs Γ Q) (n : Nat) (L : jL) (st : List Value) (K : List jK) (h : jM) (ce sl : Nat) (hw : jwp (cd_L_law LL xs) (jG Γ) Q n (sg_L_law_198 LL xs) 198 L st K h ce sl) : jG Γ 198 L st K h ce sl := jwp_ok (okc_L_law E) n (sg_L_law_198 LL xs) 198 (ok_L_law_198 E) L st K h ce sl hw
theorem H_L_law_203 {Γ : jΓ} {Q : jPost} {LL : Nat} {xs : Nat → Int32} (E : E_L_law LL xs Γ Q) (n : Nat) (L : jL) (st : List Value) (K : List jK) (h : jM) (ce sl : Nat) (hw : jwp (cd_L_law LL xs) (jG Γ) Q n (sg_L_law_203 LL xs) 203 L st K h ce sl) : jG Γ 203 L st K h ce sl := jwp_ok (okc_L_law E) n (sg_L_law_203 LL xs) 203 (ok_L_law_203 E) L st K h ce sl hw
theorem H_L_law_206 {Γ : jΓ} {Q : jPost} {LL : Nat} {xs : Nat → Int32} (E : E_L_law LL xs Γ Q) (n : Nat) (L : jL) (st : List Value) (K : List jK) (h : jM) (ce sl : Nat) (hw : jwp (cd_L_law LL xs) (jG Γ) Q n (sg_L_law_206 LL xs) 206 L st K h ce sl) : jG Γ 206 L st K h ce sl := jwp_ok (okc_L_law E) n (sg_L_law_206 LL xs) 206 (ok_L_law_206 E) L st K h ce sl hw
theorem H_L_law_217 {Γ : jΓ} {Q : jPost} {LL : Nat} {xs : Nat → Int32} (E : E_L_law LL xs Γ Q) (n : Nat) (L : jL) (st : List Value) (K : List jK) (h : jM) (ce sl : Nat) (hw : jwp (cd_L_law LL xs) (jG Γ) Q n (sg_L_law_217 LL xs) 217 L st K h ce sl) : jG Γ 217 L st K h ce sl := jwp_ok (okc_L_law E) n (sg_L_law_217 LL xs) 217 (ok_L_law_217 E) L st K h ce sl hw
theorem H_L_law_221 {Γ : jΓ} {Q : jPost} {LL : Nat} {xs : Nat → Int32} (E : E_L_law LL xs Γ Q) (n : Nat) (L : jL) (st : List Value) (K : List jK) (h : jM) (ce sl : Nat) (hw : jwp (cd_L_law LL xs) (jG Γ) Q n (sg_L_law_221 LL xs) 221 L st K h ce sl) : jG Γ 221 L st K h ce sl := jwp_ok (okc_L_law E) n (sg_L_law_221 LL xs) 221 (ok_L_law_221 E) L st K h ce sl hw
theorem H_L_law_224 {Γ : jΓ} {Q : jPost} {LL : Nat} {xs : Nat → Int32} (E : E_L_law LL xs Γ Q) (n : Nat) (L : jL) (st : List Value) (K : List jK) (h : jM) (ce sl : Nat) (hw : jwp (cd_L_law LL xs) (jG Γ) Q n (sg_L_law_224 LL xs) 224 L st K h ce sl) : jG Γ 224 L st K h ce sl := jwp_ok (okc_L_law E) n (sg_L_law_224 LL xs) 224 (ok_L_law_224 E) L st K h ce sl hw
theorem H_L_law_227 {Γ : jΓ} {Q : jPost} {LL : Nat} {xs : Nat → Int32} (E : E_L_law LL xs Γ Q) (n : Nat) (L : jL) (st : List Value) (K : List jK) (h : jM) (ce sl : Nat) (hw : jwp (cd_L_law LL xs) (jG Γ) Q n (sg_L_law_227 LL xs) 227 L st K h ce sl) : jG Γ 227 L st K h ce sl := jwp_ok (okc_L_law E) n (sg_L_law_227 LL xs) 227 (ok_L_law_227 E) L st K h ce sl hw
theorem H_L_law_240 {Γ : jΓ} {Q : jPost} {LL : Nat} {xs : Nat → Int32} (E : E_L_law LL xs Γ Q) (n : Nat) (L : jL) (st : List Value) (K : List jK) (h : jM) (ce sl : Nat) (hw : jwp (cd_L_law LL xs) (jG Γ) Q n (sg_L_law_240 LL xs) 240 L st K h ce sl) : jG Γ 240 L st K h ce sl := jwp_ok (okc_L_law E) n (sg_L_law_240 LL xs) 240 (ok_L_law_240 E) L st K h ce sl hw
theorem H_L_law_243 {Γ : jΓ} {Q : jPost} {LL : Nat} {xs : Nat → Int32} (E : E_L_law LL xs Γ Q) (n : Nat) (L : jL) (st : List Value) (K : List jK) (h : jM) (ce sl : Nat) (hw : jwp (cd_L_law LL xs) (jG Γ) Q n (sg_L_law_243 LL xs) 243 L st K h ce sl) : jG Γ 243 L st K h ce sl := jwp_ok (okc_L_law E) n (sg_L_law_243 LL xs) 243 (ok_L_law_243 E) L st K h ce sl hw
theorem H_L_law_259 {Γ : jΓ} {Q : jPost} {LL : Nat} {xs : Nat → Int32} (E : E_L_law LL xs Γ Q) (n : Nat) (L : jL) (st : List Value) (K : List jK) (h : jM) (ce sl : Nat) (hw : jwp (cd_L_law LL xs) (jG Γ) Q n (sg_L_law_259 LL xs) 259 L st K h ce sl) : jG Γ 259 L st K h ce sl := jwp_ok (okc_L_law E) n (sg_L_law_259 LL xs) 259 (ok_L_law_259 E) L st K h ce sl hw
theorem H_L_law_261 {Γ : jΓ} {Q : jPost} {LL : Nat} {xs : Nat → Int32} (E : E_L_law LL xs Γ Q) (n : Nat) (L : jL) (st : List Value) (K : List jK) (h : jM) (ce sl : Nat) (hw : jwp (cd_L_law LL xs) (jG Γ) Q n (sg_L_law_261 LL xs) 261 L st K h ce sl) : jG Γ 261 L st K h ce sl := jwp_ok (okc_L_law E) n (sg_L_law_261 LL xs) 261 (ok_L_law_261 E) L st K h ce sl hw
theorem H_L_law_264 {Γ : jΓ} {Q : jPost} {LL : Nat} {xs : Nat → Int32} (E : E_L_law LL xs Γ Q) (n : Nat) (L : jL) (st : List Value) (K : List jK) (h : jM) (ce sl : Nat) (hw : jwp (cd_L_law LL xs) (jG Γ) Q n (sg_L_law_264 LL xs) 264 L st K h ce sl) : jG Γ 264 L st K h ce sl := jwp_ok (okc_L_law E) n (sg_L_law_264 LL xs) 264 (ok_L_law_264 E) L st K h ce sl hw
theorem H_L_law_271 {Γ : jΓ} {Q : jPost} {LL : Nat} {xs : Nat → Int32} (E : E_L_law LL xs Γ Q) (n : Nat) (L : jL) (st : List Value) (K : List jK) (h : jM) (ce sl : Nat) (hw : jwp (cd_L_law LL xs) (jG Γ) Q n (sg_L_law_271 LL xs) 271 L st K h ce sl) : jG Γ 271 L st K h ce sl := jwp_ok (okc_L_law E) n (sg_L_law_271 LL xs) 271 (ok_L_law_271 E) L st K h ce sl hw
theorem H_L_law_274 {Γ : jΓ} {Q : jPost} {LL : Nat} {xs : Nat → Int32} (E : E_L_law LL xs Γ Q) (n : Nat) (L : jL) (st : List Value) (K : List jK) (h : jM) (ce sl : Nat) (hw : jwp (cd_L_law LL xs) (jG Γ) Q n (sg_L_law_274 LL xs) 274 L st K h ce sl) : jG Γ 274 L st K h ce sl := jwp_ok (okc_L_law E) n (sg_L_law_274 LL xs) 274 (ok_L_law_274 E) L st K h ce sl hw
theorem H_L_law_275 {Γ : jΓ} {Q : jPost} {LL : Nat} {xs : Nat → Int32} (E : E_L_law LL xs Γ Q) (n : Nat) (L : jL) (st : List Value) (K : List jK) (h : jM) (ce sl : Nat) (hw : jwp (cd_L_law LL xs) (jG Γ) Q n (sg_L_law_275 LL xs) 275 L st K h ce sl) : jG Γ 275 L st K h ce sl := jwp_ok (okc_L_law E) n (sg_L_law_275 LL xs) 275 (ok_L_law_275 E) L st K h ce sl hw
theorem H_L_law_278 {Γ : jΓ} {Q : jPost} {LL : Nat} {xs : Nat → Int32} (E : E_L_law LL xs Γ Q) (n : Nat) (L : jL) (st : List Value) (K : List jK) (h : jM) (ce sl : Nat) (hw : jwp (cd_L_law LL xs) (jG Γ) Q n (sg_L_law_278 LL xs) 278 L st K h ce sl) : jG Γ 278 L st K h ce sl := jwp_ok (okc_L_law E) n (sg_L_law_278 LL xs) 278 (ok_L_law_278 E) L st K h ce sl hw
theorem H_L_law_288 {Γ : jΓ} {Q : jPost} {LL : Nat} {xs : Nat → Int32} (E : E_L_law LL xs Γ Q) (n : Nat) (L : jL) (st : List Value) (K : List jK) (h : jM) (ce sl : Nat) (hw : jwp (cd_L_law LL xs) (jG Γ) Q n (sg_L_law_288 LL xs) 288 L st K h ce sl) : jG Γ 288 L st K h ce sl := jwp_ok (okc_L_law E) n (sg_L_law_288 LL xs) 288 (ok_L_law_288 E) L st K h ce sl hw
theorem H_L_law_291 {Γ : jΓ} {Q : jPost} {LL : Nat} {xs : Nat → Int32} (E : E_L_law LL xs Γ Q) (n : Nat) (L : jL) (st : List Value) (K : List jK) (h : jM) (ce sl : Nat) (hw : jwp (cd_L_law LL xs) (jG Γ) Q n (sg_L_law_291 LL xs) 291 L st K h ce sl) : jG Γ 291 L st K h ce sl := jwp_ok (okc_L_law E) n (sg_L_law_291 LL xs) 291 (ok_L_law_291 E) L st K h ce sl hw
theorem H_L_law_295 {Γ : jΓ} {Q : jPost} {LL : Nat} {xs : Nat → Int32} (E : E_L_law LL xs Γ Q) (n : Nat) (L : jL) (st : List Value) (K : List jK) (h : jM) (ce sl : Nat) (hw : jwp (cd_L_law LL xs) (jG Γ) Q n (sg_L_law_295 LL xs) 295 L st K h ce sl) : jG Γ 295 L st K h ce sl := jwp_ok (okc_L_law E) n (sg_L_law_295 LL xs) 295 (ok_L_law_295 E) L st K h ce sl hw
theorem H_L_law_298 {Γ : jΓ} {Q : jPost} {LL : Nat} {xs : Nat → Int32} (E : E_L_law LL xs Γ Q) (n : Nat) (L : jL) (st : List Value) (K : List jK) (h : jM) (ce sl : Nat) (hw : jwp (cd_L_law LL xs) (jG Γ) Q n (sg_L_law_298 LL xs) 298 L st K h ce sl) : jG Γ 298 L st K h ce sl := jwp_ok (okc_L_law E) n (sg_L_law_298 LL xs) 298 (ok_L_law_298 E) L st K h ce sl hw
theorem H_L_law_309 {Γ : jΓ} {Q : jPost} {LL : Nat} {xs : Nat → Int32} (E : E_L_law LL xs Γ Q) (n : Nat) (L : jL) (st : List Value) (K : List jK) (h : jM) (ce sl : Nat) (hw : jwp (cd_L_law LL xs) (jG Γ) Q n (sg_L_law_309 LL xs) 309 L st K h ce sl) : jG Γ 309 L st K h ce sl := jwp_ok (okc_L_law E) n (sg_L_law_309 LL xs) 309 (ok_L_law_309 E) L st K h ce sl hw
theorem H_L_law_312 {Γ : jΓ} {Q : jPost} {LL : Nat} {xs : Nat → Int32} (E : E_L_law LL xs Γ Q) (n : Nat) (L : jL) (st : List Value) (K : List jK) (h : jM) (ce sl : Nat) (hw : jwp (cd_L_law LL xs) (jG Γ) Q n (sg_L_law_312 LL xs) 312 L st K h ce sl) : jG Γ 312 L st K h ce sl := jwp_ok (okc_L_law E) n (sg_L_law_312 LL xs) 312 (ok_L_law_312 E) L st K h ce sl hw
theorem H_L_law_317 {Γ : jΓ} {Q : jPost} {LL : Nat} {xs : Nat → Int32} (E : E_L_law LL xs Γ Q) (n : Nat) (L : jL) (st : List Value) (K : List jK) (h : jM) (ce sl : Nat) (hw : jwp (cd_L_law LL xs) (jG Γ) Q n (sg_L_law_317 LL xs) 317 L st K h ce sl) : jG Γ 317 L st K h ce sl := jwp_ok (okc_L_law E) n (sg_L_law_317 LL xs) 317 (ok_L_law_317 E) L st K h ce sl hw
theorem H_L_law_320 {Γ : jΓ} {Q : jPost} {LL : Nat} {xs : Nat → Int32} (E : E_L_law LL xs Γ Q) (n : Nat) (L : jL) (st : List Value) (K : List jK) (h : jM) (ce sl : Nat) (hw : jwp (cd_L_law LL xs) (jG Γ) Q n (sg_L_law_320 LL xs) 320 L st K h ce sl) : jG Γ 320 L st K h ce sl := jwp_ok (okc_L_law E) n (sg_L_law_320 LL xs) 320 (ok_L_law_320 E) L st K h ce sl hw
theorem H_L_law_327 {Γ : jΓ} {Q : jPost} {LL : Nat} {xs : Nat → Int32} (E : E_L_law LL xs Γ Q) (n : Nat) (L : jL) (st : List Value) (K : List jK) (h : jM) (ce sl : Nat) (hw : jwp (cd_L_law LL xs) (jG Γ) Q n (sg_L_law_327 LL xs) 327 L st K h ce sl) : jG Γ 327 L st K h ce sl := jwp_ok (okc_L_law E) n (sg_L_law_327 LL xs) 327 (ok_L_law_327 E) L st K h ce sl hw
theorem H_L_law_330 {Γ : jΓ} {Q : jPost} {LL : Nat} {xs : Nat → Int32} (E : E_L_law LL xs Γ Q) (n : Nat) (L : jL) (st : List Value) (K : List jK) (h : jM) (ce sl : Nat) (hw : jwp (cd_L_law LL xs) (jG Γ) Q n (sg_L_law_330 LL xs) 330 L st K h ce sl) : jG Γ 330 L st K h ce sl := jwp_ok (okc_L_law E) n (sg_L_law_330 LL xs) 330 (ok_L_law_330 E) L st K h ce sl hw
theorem H_L_law_335 {Γ : jΓ} {Q : jPost} {LL : Nat} {xs : Nat → Int32} (E : E_L_law LL xs Γ Q) (n : Nat) (L : jL) (st : List Value) (K : List jK) (h : jM) (ce sl : Nat) (hw : jwp (cd_L_law LL xs) (jG Γ) Q n (sg_L_law_335 LL xs) 335 L st K h ce sl) : jG Γ 335 L st K h ce sl := jwp_ok (okc_L_law E) n (sg_L_law_335 LL xs) 335 (ok_L_law_335 E) L st K h ce sl hw
theorem H_L_law_338 {Γ : jΓ} {Q : jPost} {LL : Nat} {xs : Nat → Int32} (E : E_L_law LL xs Γ Q) (n : Nat) (L : jL) (st : List Value) (K : List jK) (h : jM) (ce sl : Nat) (hw : jwp (cd_L_law LL xs) (jG Γ) Q n (sg_L_law_338 LL xs) 338 L st K h ce sl) : jG Γ 338 L st K h ce sl := jwp_ok (okc_L_law E) n (sg_L_law_338 LL xs) 338 (ok_L_law_338 E) L st K h ce sl hw
theorem H_L_law_345 {Γ : jΓ} {Q : jPost} {LL : Nat} {xs : Nat → Int32} (E : E_L_law LL xs Γ Q) (n : Nat) (L : jL) (st : List Value) (K : List jK) (h : jM) (ce sl : Nat) (hw : jwp (cd_L_law LL xs) (jG Γ) Q n (sg_L_law_345 LL xs) 345 L st K h ce sl) : jG Γ 345 L st K h ce sl := jwp_ok (okc_L_law E) n (sg_L_law_345 LL xs) 345 (ok_L_law_345 E) L st K h ce sl hw
theorem H_L_law_348 {Γ : jΓ} {Q : jPost} {LL : Nat} {xs : Nat → Int32} (E : E_L_law LL xs Γ Q) (n : Nat) (L : jL) (st : List Value) (K : List jK) (h : jM) (ce sl : Nat) (hw : jwp (cd_L_law LL xs) (jG Γ) Q n (sg_L_law_348 LL xs) 348 L st K h ce sl) : jG Γ 348 L st K h ce sl := jwp_ok (okc_L_law E) n (sg_L_law_348 LL xs) 348 (ok_L_law_348 E) L st K h ce sl hw
theorem H_L_law_353 {Γ : jΓ} {Q : jPost} {LL : Nat} {xs : Nat → Int32} (E : E_L_law LL xs Γ Q) (n : Nat) (L : jL) (st : List Value) (K : List jK) (h : jM) (ce sl : Nat) (hw : jwp (cd_L_law LL xs) (jG Γ) Q n (sg_L_law_353 LL xs) 353 L st K h ce sl) : jG Γ 353 L st K h ce sl := jwp_ok (okc_L_law E) n (sg_L_law_353 LL xs) 353 (ok_L_law_353 E) L st K h ce sl hw
theorem H_L_law_356 {Γ : jΓ} {Q : jPost} {LL : Nat} {xs : Nat → Int32} (E : E_L_law LL xs Γ Q) (n : Nat) (L : jL) (st : List Value) (K : List jK) (h : jM) (ce sl : Nat) (hw : jwp (cd_L_law LL xs) (jG Γ) Q n (sg_L_law_356 LL xs) 356 L st K h ce sl) : jG Γ 356 L st K h ce sl := jwp_ok (okc_L_law E) n (sg_L_law_356 LL xs) 356 (ok_L_law_356 E) L st K h ce sl hw
theorem H_L_law_364 {Γ : jΓ} {Q : jPost} {LL : Nat} {xs : Nat → Int32} (E : E_L_law LL xs Γ Q) (n : Nat) (L : jL) (st : List Value) (K : List jK) (h : jM) (ce sl : Nat) (hw : jwp (cd_L_law LL xs) (jG Γ) Q n (sg_L_law_364 LL xs) 364 L st K h ce sl) : jG Γ 364 L st K h ce sl := jwp_ok (okc_L_law E) n (sg_L_law_364 LL xs) 364 (ok_L_law_364 E) L st K h ce sl hw
theorem H_L_law_367 {Γ : jΓ} {Q : jPost} {LL : Nat} {xs : Nat → Int32} (E : E_L_law LL xs Γ Q) (n : Nat) (L : jL) (st : List Value) (K : List jK) (h : jM) (ce sl : Nat) (hw : jwp (cd_L_law LL xs) (jG Γ) Q n (sg_L_law_367 LL xs) 367 L st K h ce sl) : jG Γ 367 L st K h ce sl := jwp_ok (okc_L_law E) n (sg_L_law_367 LL xs) 367 (ok_L_law_367 E) L st K h ce sl hw
theorem H_L_law_371 {Γ : jΓ} {Q : jPost} {LL : Nat} {xs : Nat → Int32} (E : E_L_law LL xs Γ Q) (n : Nat) (L : jL) (st : List Value) (K : List jK) (h : jM) (ce sl : Nat) (hw : jwp (cd_L_law LL xs) (jG Γ) Q n (sg_L_law_371 LL xs) 371 L st K h ce sl) : jG Γ 371 L st K h ce sl := jwp_ok (okc_L_law E) n (sg_L_law_371 LL xs) 371 (ok_L_law_371 E) L st K h ce sl hw
theorem H_L_law_374 {Γ : jΓ} {Q : jPost} {LL : Nat} {xs : Nat → Int32} (E : E_L_law LL xs Γ Q) (n : Nat) (L : jL) (st : List Value) (K : List jK) (h : jM) (ce sl : Nat) (hw : jwp (cd_L_law LL xs) (jG Γ) Q n (sg_L_law_374 LL xs) 374 L st K h ce sl) : jG Γ 374 L st K h ce sl := jwp_ok (okc_L_law E) n (sg_L_law_374 LL xs) 374 (ok_L_law_374 E) L st K h ce sl hw
theorem H_L_law_377 {Γ : jΓ} {Q : jPost} {LL : Nat} {xs : Nat → Int32} (E : E_L_law LL xs Γ Q) (n : Nat) (L : jL) (st : List Value) (K : List jK) (h : jM) (ce sl : Nat) (hw : jwp (cd_L_law LL xs) (jG Γ) Q n (sg_L_law_377 LL xs) 377 L st K h ce sl) : jG Γ 377 L st K h ce sl := jwp_ok (okc_L_law E) n (sg_L_law_377 LL xs) 377 (ok_L_law_377 E) L st K h ce sl hw
theorem H_L_law_383 {Γ : jΓ} {Q : jPost} {LL : Nat} {xs : Nat → Int32} (E : E_L_law LL xs Γ Q) (n : Nat) (L : jL) (st : List Value) (K : List jK) (h : jM) (ce sl : Nat) (hw : jwp (cd_L_law LL xs) (jG Γ) Q n (sg_L_law_383 LL xs) 383 L st K h ce sl) : jG Γ 383 L st K h ce sl := jwp_ok (okc_L_law E) n (sg_L_law_383 LL xs) 383 (ok_L_law_383 E) L st K h ce sl hw
theorem H_L_law_386 {Γ : jΓ} {Q : jPost} {LL : Nat} {xs : Nat → Int32} (E : E_L_law LL xs Γ Q) (n : Nat) (L : jL) (st : List Value) (K : List jK) (h : jM) (ce sl : Nat) (hw : jwp (cd_L_law LL xs) (jG Γ) Q n (sg_L_law_386 LL xs) 386 L st K h ce sl) : jG Γ 386 L st K h ce sl := jwp_ok (okc_L_law E) n (sg_L_law_386 LL xs) 386 (ok_L_law_386 E) L st K h ce sl hw
theorem H_L_law_390 {Γ : jΓ} {Q : jPost} {LL : Nat} {xs : Nat → Int32} (E : E_L_law LL xs Γ Q) (n : Nat) (L : jL) (st : List Value) (K : List jK) (h : jM) (ce sl : Nat) (hw : jwp (cd_L_law LL xs) (jG Γ) Q n (sg_L_law_390 LL xs) 390 L st K h ce sl) : jG Γ 390 L st K h ce sl := jwp_ok (okc_L_law E) n (sg_L_law_390 LL xs) 390 (ok_L_law_390 E) L st K h ce sl hw
theorem H_L_law_393 {Γ : jΓ} {Q : jPost} {LL : Nat} {xs : Nat → Int32} (E : E_L_law LL xs Γ Q) (n : Nat) (L : jL) (st : List Value) (K : List jK) (h : jM) (ce sl : Nat) (hw : jwp (cd_L_law LL xs) (jG Γ) Q n (sg_L_law_393 LL xs) 393 L st K h ce sl) : jG Γ 393 L st K h ce sl := jwp_ok (okc_L_law E) n (sg_L_law_393 LL xs) 393 (ok_L_law_393 E) L st K h ce sl hw
theorem H_L_law_396 {Γ : jΓ} {Q : jPost} {LL : Nat} {xs : Nat → Int32} (E : E_L_law LL xs Γ Q) (n : Nat) (L : jL) (st : List Value) (K : List jK) (h : jM) (ce sl : Nat) (hw : jwp (cd_L_law LL xs) (jG Γ) Q n (sg_L_law_396 LL xs) 396 L st K h ce sl) : jG Γ 396 L st K h ce sl := jwp_ok (okc_L_law E) n (sg_L_law_396 LL xs) 396 (ok_L_law_396 E) L st K h ce sl hw
theorem H_L_law_411 {Γ : jΓ} {Q : jPost} {LL : Nat} {xs : Nat → Int32} (E : E_L_law LL xs Γ Q) (n : Nat) (L : jL) (st : List Value) (K : List jK) (h : jM) (ce sl : Nat) (hw : jwp (cd_L_law LL xs) (jG Γ) Q n (sg_L_law_411 LL xs) 411 L st K h ce sl) : jG Γ 411 L st K h ce sl := jwp_ok (okc_L_law E) n (sg_L_law_411 LL xs) 411 (ok_L_law_411 E) L st K h ce sl hw
theorem H_L_law_417 {Γ : jΓ} {Q : jPost} {LL : Nat} {xs : Nat → Int32} (E : E_L_law LL xs Γ Q) (n : Nat) (L : jL) (st : List Value) (K : List jK) (h : jM) (ce sl : Nat) (hw : jwp (cd_L_law LL xs) (jG Γ) Q n (sg_L_law_417 LL xs) 417 L st K h ce sl) : jG Γ 417 L st K h ce sl := jwp_ok (okc_L_law E) n (sg_L_law_417 LL xs) 417 (ok_L_law_417 E) L st K h ce sl hw
theorem H_L_law_420 {Γ : jΓ} {Q : jPost} {LL : Nat} {xs : Nat → Int32} (E : E_L_law LL xs Γ Q) (n : Nat) (L : jL) (st : List Value) (K : List jK) (h : jM) (ce sl : Nat) (hw : jwp (cd_L_law LL xs) (jG Γ) Q n (sg_L_law_420 LL xs) 420 L st K h ce sl) : jG Γ 420 L st K h ce sl := jwp_ok (okc_L_law E) n (sg_L_law_420 LL xs) 420 (ok_L_law_420 E) L st K h ce sl hw
theorem H_L_law_423 {Γ : jΓ} {Q : jPost} {LL : Nat} {xs : Nat → Int32} (E : E_L_law LL xs Γ Q) (n : Nat) (L : jL) (st : List Value) (K : List jK) (h : jM) (ce sl : Nat) (hw : jwp (cd_L_law LL xs) (jG Γ) Q n (sg_L_law_423 LL xs) 423 L st K h ce sl) : jG Γ 423 L st K h ce sl := jwp_ok (okc_L_law E) n (sg_L_law_423 LL xs) 423 (ok_L_law_423 E) L st K h ce sl hw
theorem H_L_law_426 {Γ : jΓ} {Q : jPost} {LL : Nat} {xs : Nat → Int32} (E : E_L_law LL xs Γ Q) (n : Nat) (L : jL) (st : List Value) (K : List jK) (h : jM) (ce sl : Nat) (hw : jwp (cd_L_law LL xs) (jG Γ) Q n (sg_L_law_426 LL xs) 426 L st K h ce sl) : jG Γ 426 L st K h ce sl := jwp_ok (okc_L_law E) n (sg_L_law_426 LL xs) 426 (ok_L_law_426 E) L st K h ce sl hw
theorem H_L_law_429 {Γ : jΓ} {Q : jPost} {LL : Nat} {xs : Nat → Int32} (E : E_L_law LL xs Γ Q) (n : Nat) (L : jL) (st : List Value) (K : List jK) (h : jM) (ce sl : Nat) (hw : jwp (cd_L_law LL xs) (jG Γ) Q n (sg_L_law_429 LL xs) 429 L st K h ce sl) : jG Γ 429 L st K h ce sl := jwp_ok (okc_L_law E) n (sg_L_law_429 LL xs) 429 (ok_L_law_429 E) L st K h ce sl hw
theorem H_L_law_452 {Γ : jΓ} {Q : jPost} {LL : Nat} {xs : Nat → Int32} (E : E_L_law LL xs Γ Q) (n : Nat) (L : jL) (st : List Value) (K : List jK) (h : jM) (ce sl : Nat) (hw : jwp (cd_L_law LL xs) (jG Γ) Q n (sg_L_law_452 LL xs) 452 L st K h ce sl) : jG Γ 452 L st K h ce sl := jwp_ok (okc_L_law E) n (sg_L_law_452 LL xs) 452 (ok_L_law_452 E) L st K h ce sl hw
theorem H_L_law_463 {Γ : jΓ} {Q : jPost} {LL : Nat} {xs : Nat → Int32} (E : E_L_law LL xs Γ Q) (n : Nat) (L : jL) (st : List Value) (K : List jK) (h : jM) (ce sl : Nat) (hw : jwp (cd_L_law LL xs) (jG Γ) Q n (sg_L_law_463 LL xs) 463 L st K h ce sl) : jG Γ 463 L st K h ce sl := jwp_ok (okc_L_law E) n (sg_L_law_463 LL xs) 463 (ok_L_law_463 E) L st K h ce sl hw
theorem H_L_law_466 {Γ : jΓ} {Q : jPost} {LL : Nat} {xs : Nat → Int32} (E : E_L_law LL xs Γ Q) (n : Nat) (L : jL) (st : List Value) (K : List jK) (h : jM) (ce sl : Nat) (hw : jwp (cd_L_law LL xs) (jG Γ) Q n (sg_L_law_466 LL xs) 466 L st K h ce sl) : jG Γ 466 L st K h ce sl := jwp_ok (okc_L_law E) n (sg_L_law_466 LL xs) 466 (ok_L_law_466 E) L st K h ce sl hw
theorem H_L_law_472 {Γ : jΓ} {Q : jPost} {LL : Nat} {xs : Nat → Int32} (E : E_L_law LL xs Γ Q) (n : Nat) (L : jL) (st : List Value) (K : List jK) (h : jM) (ce sl : Nat) (hw : jwp (cd_L_law LL xs) (jG Γ) Q n (sg_L_law_472 LL xs) 472 L st K h ce sl) : jG Γ 472 L st K h ce sl := jwp_ok (okc_L_law E) n (sg_L_law_472 LL xs) 472 (ok_L_law_472 E) L st K h ce sl hw
theorem H_L_law_475 {Γ : jΓ} {Q : jPost} {LL : Nat} {xs : Nat → Int32} (E : E_L_law LL xs Γ Q) (n : Nat) (L : jL) (st : List Value) (K : List jK) (h : jM) (ce sl : Nat) (hw : jwp (cd_L_law LL xs) (jG Γ) Q n (sg_L_law_475 LL xs) 475 L st K h ce sl) : jG Γ 475 L st K h ce sl := jwp_ok (okc_L_law E) n (sg_L_law_475 LL xs) 475 (ok_L_law_475 E) L st K h ce sl hw
theorem H_L_law_485 {Γ : jΓ} {Q : jPost} {LL : Nat} {xs : Nat → Int32} (E : E_L_law LL xs Γ Q) (n : Nat) (L : jL) (st : List Value) (K : List jK) (h : jM) (ce sl : Nat) (hw : jwp (cd_L_law LL xs) (jG Γ) Q n (sg_L_law_485 LL xs) 485 L st K h ce sl) : jG Γ 485 L st K h ce sl := jwp_ok (okc_L_law E) n (sg_L_law_485 LL xs) 485 (ok_L_law_485 E) L st K h ce sl hw
theorem H_L_law_492 {Γ : jΓ} {Q : jPost} {LL : Nat} {xs : Nat → Int32} (E : E_L_law LL xs Γ Q) (n : Nat) (L : jL) (st : List Value) (K : List jK) (h : jM) (ce sl : Nat) (hw : jwp (cd_L_law LL xs) (jG Γ) Q n (sg_L_law_492 LL xs) 492 L st K h ce sl) : jG Γ 492 L st K h ce sl := jwp_ok (okc_L_law E) n (sg_L_law_492 LL xs) 492 (ok_L_law_492 E) L st K h ce sl hw
theorem H_L_law_493 {Γ : jΓ} {Q : jPost} {LL : Nat} {xs : Nat → Int32} (E : E_L_law LL xs Γ Q) (n : Nat) (L : jL) (st : List Value) (K : List jK) (h : jM) (ce sl : Nat) (hw : jwp (cd_L_law LL xs) (jG Γ) Q n (sg_L_law_493 LL xs) 493 L st K h ce sl) : jG Γ 493 L st K h ce sl := jwp_ok (okc_L_law E) n (sg_L_law_493 LL xs) 493 (ok_L_law_493 E) L st K h ce sl hw
theorem H_L_law_496 {Γ : jΓ} {Q : jPost} {LL : Nat} {xs : Nat → Int32} (E : E_L_law LL xs Γ Q) (n : Nat) (L : jL) (st : List Value) (K : List jK) (h : jM) (ce sl : Nat) (hw : jwp (cd_L_law LL xs) (jG Γ) Q n (sg_L_law_496 LL xs) 496 L st K h ce sl) : jG Γ 496 L st K h ce sl := jwp_ok (okc_L_law E) n (sg_L_law_496 LL xs) 496 (ok_L_law_496 E) L st K h ce sl hw
theorem H_L_law_498 {Γ : jΓ} {Q : jPost} {LL : Nat} {xs : Nat → Int32} (E : E_L_law LL xs Γ Q) (n : Nat) (L : jL) (st : List Value) (K : List jK) (h : jM) (ce sl : Nat) (hw : jwp (cd_L_law LL xs) (jG Γ) Q n (sg_L_law_498 LL xs) 498 L st K h ce sl) : jG Γ 498 L st K h ce sl := jwp_ok (okc_L_law E) n (sg_L_law_498 LL xs) 498 (ok_L_law_498 E) L st K h ce sl hw
theorem H_L_law_511 {Γ : jΓ} {Q : jPost} {LL : Nat} {xs : Nat → Int32} (E : E_L_law LL xs Γ Q) (n : Nat) (L : jL) (st : List Value) (K : List jK) (h : jM) (ce sl : Nat) (hw : jwp (cd_L_law LL xs) (jG Γ) Q n (sg_L_law_511 LL xs) 511 L st K h ce sl) : jG Γ 511 L st K h ce sl := jwp_ok (okc_L_law E) n (sg_L_law_511 LL xs) 511 (ok_L_law_511 E) L st K h ce sl hw
theorem H_L_law_514 {Γ : jΓ} {Q : jPost} {LL : Nat} {xs : Nat → Int32} (E : E_L_law LL xs Γ Q) (n : Nat) (L : jL) (st : List Value) (K : List jK) (h : jM) (ce sl : Nat) (hw : jwp (cd_L_law LL xs) (jG Γ) Q n (sg_L_law_514 LL xs) 514 L st K h ce sl) : jG Γ 514 L st K h ce sl := jwp_ok (okc_L_law E) n (sg_L_law_514 LL xs) 514 (ok_L_law_514 E) L st K h ce sl hw
theorem H_L_law_530 {Γ : jΓ} {Q : jPost} {LL : Nat} {xs : Nat → Int32} (E : E_L_law LL xs Γ Q) (n : Nat) (L : jL) (st : List Value) (K : List jK) (h : jM) (ce sl : Nat) (hw : jwp (cd_L_law LL xs) (jG Γ) Q n (sg_L_law_530 LL xs) 530 L st K h ce sl) : jG Γ 530 L st K h ce sl := jwp_ok (okc_L_law E) n (sg_L_law_530 LL xs) 530 (ok_L_law_530 E) L st K h ce sl hw
theorem H_L_law_531 {Γ : jΓ} {Q : jPost} {LL : Nat} {xs : Nat → Int32} (E : E_L_law LL xs Γ Q) (n : Nat) (L : jL) (st : List Value) (K : List jK) (h : jM) (ce sl : Nat) (hw : jwp (cd_L_law LL xs) (jG Γ) Q n (sg_L_law_531 LL xs) 531 L st K h ce sl) : jG Γ 531 L st K h ce sl := jwp_ok (okc_L_law E) n (sg_L_law_531 LL xs) 531 (ok_L_law_531 E) L st K h ce sl hw
theorem H_L_law_534 {Γ : jΓ} {Q : jPost} {LL : Nat} {xs : Nat → Int32} (E : E_L_law LL xs Γ Q) (n : Nat) (L : jL) (st : List Value) (K : List jK) (h : jM) (ce sl : Nat) (hw : jwp (cd_L_law LL xs) (jG Γ) Q n (sg_L_law_534 LL xs) 534 L st K h ce sl) : jG Γ 534 L st K h ce sl := jwp_ok (okc_L_law E) n (sg_L_law_534 LL xs) 534 (ok_L_law_534 E) L st K h ce sl hw
theorem H_L_law_539 {Γ : jΓ} {Q : jPost} {LL : Nat} {xs : Nat → Int32} (E : E_L_law LL xs Γ Q) (n : Nat) (L : jL) (st : List Value) (K : List jK) (h : jM) (ce sl : Nat) (hw : jwp (cd_L_law LL xs) (jG Γ) Q n (sg_L_law_539 LL xs) 539 L st K h ce sl) : jG Γ 539 L st K h ce sl := jwp_ok (okc_L_law E) n (sg_L_law_539 LL xs) 539 (ok_L_law_539 E) L st K h ce sl hw
theorem H_L_law_542 {Γ : jΓ} {Q : jPost} {LL : Nat} {xs : Nat → Int32} (E : E_L_law LL xs Γ Q) (n : Nat) (L : jL) (st : List Value) (K : List jK) (h : jM) (ce sl : Nat) (hw : jwp (cd_L_law LL xs) (jG Γ) Q n (sg_L_law_542 LL xs) 542 L st K h ce sl) : jG Γ 542 L st K h ce sl := jwp_ok (okc_L_law E) n (sg_L_law_542 LL xs) 542 (ok_L_law_542 E) L st K h ce sl hw
theorem H_L_law_551 {Γ : jΓ} {Q : jPost} {LL : Nat} {xs : Nat → Int32} (E : E_L_law LL xs Γ Q) (n : Nat) (L : jL) (st : List Value) (K : List jK) (h : jM) (ce sl : Nat) (hw : jwp (cd_L_law LL xs) (jG Γ) Q n (sg_L_law_551 LL xs) 551 L st K h ce sl) : jG Γ 551 L st K h ce sl := jwp_ok (okc_L_law E) n (sg_L_law_551 LL xs) 551 (ok_L_law_551 E) L st K h ce sl hw
theorem H_L_law_563 {Γ : jΓ} {Q : jPost} {LL : Nat} {xs : Nat → Int32} (E : E_L_law LL xs Γ Q) (n : Nat) (L : jL) (st : List Value) (K : List jK) (h : jM) (ce sl : Nat) (hw : jwp (cd_L_law LL xs) (jG Γ) Q n (sg_L_law_563 LL xs) 563 L st K h ce sl) : jG Γ 563 L st K h ce sl := jwp_ok (okc_L_law E) n (sg_L_law_563 LL xs) 563 (ok_L_law_563 E) L st K h ce sl hw
theorem H_L_law_566 {Γ : jΓ} {Q : jPost} {LL : Nat} {xs : Nat → Int32} (E : E_L_law LL xs Γ Q) (n : Nat) (L : jL) (st : List Value) (K : List jK) (h : jM) (ce sl : Nat) (hw : jwp (cd_L_law LL xs) (jG Γ) Q n (sg_L_law_566 LL xs) 566 L st K h ce sl) : jG Γ 566 L st K h ce sl := jwp_ok (okc_L_law E) n (sg_L_law_566 LL xs) 566 (ok_L_law_566 E) L st K h ce sl hw
theorem H_L_law_582 {Γ : jΓ} {Q : jPost} {LL : Nat} {xs : Nat → Int32} (E : E_L_law LL xs Γ Q) (n : Nat) (L : jL) (st : List Value) (K : List jK) (h : jM) (ce sl : Nat) (hw : jwp (cd_L_law LL xs) (jG Γ) Q n (sg_L_law_582 LL xs) 582 L st K h ce sl) : jG Γ 582 L st K h ce sl := jwp_ok (okc_L_law E) n (sg_L_law_582 LL xs) 582 (ok_L_law_582 E) L st K h ce sl hw
theorem H_L_law_583 {Γ : jΓ} {Q : jPost} {LL : Nat} {xs : Nat → Int32} (E : E_L_law LL xs Γ Q) (n : Nat) (L : jL) (st : List Value) (K : List jK) (h : jM) (ce sl : Nat) (hw : jwp (cd_L_law LL xs) (jG Γ) Q n (sg_L_law_583 LL xs) 583 L st K h ce sl) : jG Γ 583 L st K h ce sl := jwp_ok (okc_L_law E) n (sg_L_law_583 LL xs) 583 (ok_L_law_583 E) L st K h ce sl hw
theorem H_L_law_586 {Γ : jΓ} {Q : jPost} {LL : Nat} {xs : Nat → Int32} (E : E_L_law LL xs Γ Q) (n : Nat) (L : jL) (st : List Value) (K : List jK) (h : jM) (ce sl : Nat) (hw : jwp (cd_L_law LL xs) (jG Γ) Q n (sg_L_law_586 LL xs) 586 L st K h ce sl) : jG Γ 586 L st K h ce sl := jwp_ok (okc_L_law E) n (sg_L_law_586 LL xs) 586 (ok_L_law_586 E) L st K h ce sl hw
