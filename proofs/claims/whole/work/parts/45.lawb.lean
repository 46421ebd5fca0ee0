/-! THE LAW: its cases, two -/
section GK
variable {p : Program} {l : Launch} {e : Env} {s : State} {m : MethodId} {args : Array Value} {below : List Frame} {meth : Method} {c : Code} {D : va_G} {cy : Nat → ClassId} {A : Nat → Prop} {Q : State → Prop} {adx adm : Nat → Nat} {b L : Nat} {xs : Nat → Int32} {i : Nat} {I J : Nat → Nat → Int32} {G H : Nat → Nat → UInt64}
theorem gl_bool {R : Room} {ws : va_W} {kc ks pc nL : Nat} {lv : List (Nat × Value)} {st : List Value} {own : String} {cc : ByteArray} {ret2 : Option FieldType} (hC : gc_X p s m args meth c own cc ret2 nL D cy A) {v : Int32} (d0 : decode cc pc = .ok (.ifCond .eq 7, 3)) (d1 : decode cc (pc + 3) = .ok (.iconst 1, 1)) (d2 : decode cc (pc + 4) = .ok (.goto 4, 3)) (d3 : decode cc (pc + 7) = .ok (.iconst 0, 1)) (kk : gc_W p l e R s m args below meth c D A nL Q ws kc ks (pc + 8) lv (.int (gz_b (!decide (v = 0))) :: st)) : gc_W p l e R s m args below meth c D A nL Q ws kc ks pc lv (.int v :: st) := by
  refine gl_if_eq hC (pc + 7) d0 (by omega) (fun q => ?_) (fun q => ?_)
  · have e1 : gz_b (!decide (v = 0)) = 0 := by rw [decide_eq_true q]; rfl
    rw [e1] at kk
    exact gc_iconst hC 0 d3 (by decide) kk
  · have e1 : gz_b (!decide (v = 0)) = 1 := by rw [decide_eq_false q]; rfl
    rw [e1] at kk
    exact gc_iconst hC 1 d1 (by decide) (gl_goto hC (pc + 8) d2 (by omega) kk)
set_option maxHeartbeats 4000000 in
set_option maxRecDepth 100000 in
theorem gl_k0 (hC : gc_X p s m args meth c RL cL_law ret 4 D cy A) (hx : gz_inj adx lx_lay) (hm : gz_inj adm lm_lay) (hX : va_X b L xs s s.heap) (hbl : b < s.heap.size) (hbA : ¬ A b) (hL : L ≤ 3584) (hi : i + 7 ≤ L) (hS : gl_S I J) (hN : ∀ I G J H, gl_S I J → gc_W p l e room_1 s m args below meth c D A 4 Q (gz_ws adx cy lx_lay (I, G) ++ gz_ws adm cy lm_lay (J, H)) 600000 7302250 785 [(0, .ref b), (1, .ref (adx 0)), (2, .ref (adm 0)), (3, .int (nI i))] []) : gc_W p l e room_1 s m args below meth c D A 4 Q (gz_ws adx cy lx_lay (I, G) ++ gz_ws adm cy lm_lay (J, H)) 600000 7302250 120 [(0, .ref b), (1, .ref (adx 0)), (2, .ref (adm 0)), (3, .int (nI i))] [] := by
  obtain ⟨d0, d1, F, w, th, g, hO, k1, k2, k3, k4, k5, k6, k7⟩ := id hS
  refine gc_aload_n hC dL_law_120 rfl ?_
  refine gl_arg hC hX hbl hbA i 1 rfl rfl dL_law_121 dL_law_122 dL_law_123 (by decide) dL_law_124 dL_law_125 (by omega) hL ?_
  refine gl_arg hC hX hbl hbA i 2 rfl rfl dL_law_126 dL_law_127 dL_law_128 (by decide) dL_law_129 dL_law_130 (by omega) hL ?_
  refine gl_arg hC hX hbl hbA i 3 rfl rfl dL_law_131 dL_law_132 dL_law_133 (by decide) dL_law_134 dL_law_135 (by omega) hL ?_
  refine gl_arg hC hX hbl hbA i 4 rfl rfl dL_law_136 dL_law_137 dL_law_138 (by decide) dL_law_139 dL_law_140 (by omega) hL ?_
  refine gl_bool hC dL_law_141 dL_law_144 dL_law_145 dL_law_148 ?_
  refine gl_call (ad := adx) (lay := lx_lay) (M := (I, G)) (k := 0) hC [.int (xs (i + 1)), .int (xs (i + 2)), .int (xs (i + 3)), .int (gz_b (!decide ((xs (i + 4)) = 0)))] dL_law_149 ml_L_13 rfl rfl (ct_X7_cups hx _ _ (xs (i + 1)) (xs (i + 2)) (xs (i + 3)) _ _ rfl) hx ⟨(Nat.le_of_ble_eq_true rfl), (Nat.le_of_ble_eq_true rfl)⟩ (Nat.le_of_ble_eq_true rfl) (Nat.le_of_ble_eq_true rfl) (Nat.le_of_ble_eq_true rfl) (fun v7 M7 h7 => ?_)
  rcases h7 with ⟨q7, rfl, rfl⟩ | ⟨q7, h7⟩
  · refine gc_aload_n hC dL_law_152 rfl ?_
    refine gl_arg hC hX hbl hbA i 1 rfl rfl dL_law_153 dL_law_154 dL_law_155 (by decide) dL_law_156 dL_law_157 (by omega) hL ?_
    refine gl_arg hC hX hbl hbA i 2 rfl rfl dL_law_158 dL_law_159 dL_law_160 (by decide) dL_law_161 dL_law_162 (by omega) hL ?_
    refine gl_arg hC hX hbl hbA i 3 rfl rfl dL_law_163 dL_law_164 dL_law_165 (by decide) dL_law_166 dL_law_167 (by omega) hL ?_
    refine gl_arg hC hX hbl hbA i 4 rfl rfl dL_law_168 dL_law_169 dL_law_170 (by decide) dL_law_171 dL_law_172 (by omega) hL ?_
    refine gl_bool hC dL_law_173 dL_law_176 dL_law_177 dL_law_180 ?_
    refine gl_call (ad := adm) (lay := lm_lay) (M := (J, H)) (k := 0) hC [.int (xs (i + 1)), .int (xs (i + 2)), .int (xs (i + 3)), .int (gz_b (!decide ((xs (i + 4)) = 0)))] dL_law_181 ml_L_17 rfl rfl (ct_X8_cups hm _ _ (xs (i + 1)) (xs (i + 2)) (xs (i + 3)) _ _ rfl) hm ⟨(Nat.le_of_ble_eq_true rfl), (Nat.le_of_ble_eq_true rfl)⟩ (Nat.le_of_ble_eq_true rfl) (Nat.le_of_ble_eq_true rfl) (Nat.le_of_ble_eq_true rfl) (fun v8 M8 h8 => ?_)
    rcases h8 with ⟨q8, rfl, rfl⟩ | ⟨q8, h8⟩
    · exact gl_icmp_eq hC 785 dL_law_184 (by decide) (fun _ => hN _ _ _ _ hS) (fun q => absurd rfl q)
    · exact absurd (q7.symm.trans q8) (by decide)
  · obtain ⟨I1, rfl, rfl, i1, i2, i3, i4, i5⟩ := h7
    refine gc_aload_n hC dL_law_152 rfl ?_
    refine gl_arg hC hX hbl hbA i 1 rfl rfl dL_law_153 dL_law_154 dL_law_155 (by decide) dL_law_156 dL_law_157 (by omega) hL ?_
    refine gl_arg hC hX hbl hbA i 2 rfl rfl dL_law_158 dL_law_159 dL_law_160 (by decide) dL_law_161 dL_law_162 (by omega) hL ?_
    refine gl_arg hC hX hbl hbA i 3 rfl rfl dL_law_163 dL_law_164 dL_law_165 (by decide) dL_law_166 dL_law_167 (by omega) hL ?_
    refine gl_arg hC hX hbl hbA i 4 rfl rfl dL_law_168 dL_law_169 dL_law_170 (by decide) dL_law_171 dL_law_172 (by omega) hL ?_
    refine gl_bool hC dL_law_173 dL_law_176 dL_law_177 dL_law_180 ?_
    refine gl_call (ad := adm) (lay := lm_lay) (M := (J, H)) (k := 0) hC [.int (xs (i + 1)), .int (xs (i + 2)), .int (xs (i + 3)), .int (gz_b (!decide ((xs (i + 4)) = 0)))] dL_law_181 ml_L_17 rfl rfl (ct_X8_cups hm _ _ (xs (i + 1)) (xs (i + 2)) (xs (i + 3)) _ _ rfl) hm ⟨(Nat.le_of_ble_eq_true rfl), (Nat.le_of_ble_eq_true rfl)⟩ (Nat.le_of_ble_eq_true rfl) (Nat.le_of_ble_eq_true rfl) (Nat.le_of_ble_eq_true rfl) (fun v8 M8 h8 => ?_)
    rcases h8 with ⟨q8, rfl, rfl⟩ | ⟨q8, h8⟩
    · exact absurd (q8.symm.trans q7) (by decide)
    · obtain ⟨J1, rfl, rfl, j1, j2, j3, j4, j5⟩ := h8
      exact gl_icmp_eq hC 785 dL_law_184 (by decide) (fun _ => hN _ _ _ _ (gl_S_cups hS q7 i1 i2 i3 i4 i5 j1 j2 j3 j4 j5)) (fun q => absurd rfl q)
set_option maxHeartbeats 4000000 in
set_option maxRecDepth 100000 in
theorem gl_k7 (hC : gc_X p s m args meth c RL cL_law ret 4 D cy A) (hx : gz_inj adx lx_lay) (hm : gz_inj adm lm_lay) (hX : va_X b L xs s s.heap) (hbl : b < s.heap.size) (hbA : ¬ A b) (hL : L ≤ 3584) (hi : i + 7 ≤ L) (hS : gl_S I J) (hN : ∀ I G J H, gl_S I J → gc_W p l e room_1 s m args below meth c D A 4 Q (gz_ws adx cy lx_lay (I, G) ++ gz_ws adm cy lm_lay (J, H)) 600000 7302250 785 [(0, .ref b), (1, .ref (adx 0)), (2, .ref (adm 0)), (3, .int (nI i))] []) : gc_W p l e room_1 s m args below meth c D A 4 Q (gz_ws adx cy lx_lay (I, G) ++ gz_ws adm cy lm_lay (J, H)) 600000 7302250 437 [(0, .ref b), (1, .ref (adx 0)), (2, .ref (adm 0)), (3, .int (nI i))] [] := by
  obtain ⟨d0, d1, F, w, th, g, hO, k1, k2, k3, k4, k5, k6, k7⟩ := id hS
  refine gc_aload_n hC dL_law_437 rfl ?_
  refine gl_arg hC hX hbl hbA i 1 rfl rfl dL_law_438 dL_law_439 dL_law_440 (by decide) dL_law_441 dL_law_442 (by omega) hL ?_
  refine gl_arg hC hX hbl hbA i 2 rfl rfl dL_law_443 dL_law_444 dL_law_445 (by decide) dL_law_446 dL_law_447 (by omega) hL ?_
  refine gl_arg hC hX hbl hbA i 3 rfl rfl dL_law_448 dL_law_449 dL_law_450 (by decide) dL_law_451 dL_law_452 (by omega) hL ?_
  refine gl_arg hC hX hbl hbA i 4 rfl rfl dL_law_453 dL_law_454 dL_law_455 (by decide) dL_law_456 dL_law_457 (by omega) hL ?_
  refine gl_arg hC hX hbl hbA i 5 rfl rfl dL_law_458 dL_law_459 dL_law_460 (by decide) dL_law_461 dL_law_462 (by omega) hL ?_
  refine gl_argB hC hX hbl hbA i 6 rfl rfl dL_law_463 dL_law_464 dL_law_465 (by decide) dL_law_467 dL_law_468 (by omega) hL ?_
  refine gl_call (ad := adx) (lay := lx_lay) (M := (I, G)) (k := 0) hC [.int (xs (i + 1)), .int (xs (i + 2)), .int (xs (i + 3)), .int (xs (i + 4)), .int (xs (i + 5)), .int (xs (i + 6))] dL_law_469 ml_L_46 rfl rfl (ct_X7_weigh hx _ _ d0 d1 F w hO k1 (xs (i + 1)) (xs (i + 2)) (xs (i + 3)) (xs (i + 4)) (xs (i + 5)) (xs (i + 6))) hx ⟨(Nat.le_of_ble_eq_true rfl), (Nat.le_of_ble_eq_true rfl)⟩ (Nat.le_of_ble_eq_true rfl) (Nat.le_of_ble_eq_true rfl) (Nat.le_of_ble_eq_true rfl) (fun v7 M7 h7 => ?_)
  rcases h7 with ⟨q7, rfl, rfl⟩ | ⟨q7, h7⟩
  · refine gc_aload_n hC dL_law_472 rfl ?_
    refine gl_arg hC hX hbl hbA i 1 rfl rfl dL_law_473 dL_law_474 dL_law_475 (by decide) dL_law_476 dL_law_477 (by omega) hL ?_
    refine gl_arg hC hX hbl hbA i 2 rfl rfl dL_law_478 dL_law_479 dL_law_480 (by decide) dL_law_481 dL_law_482 (by omega) hL ?_
    refine gl_arg hC hX hbl hbA i 3 rfl rfl dL_law_483 dL_law_484 dL_law_485 (by decide) dL_law_486 dL_law_487 (by omega) hL ?_
    refine gl_arg hC hX hbl hbA i 4 rfl rfl dL_law_488 dL_law_489 dL_law_490 (by decide) dL_law_491 dL_law_492 (by omega) hL ?_
    refine gl_arg hC hX hbl hbA i 5 rfl rfl dL_law_493 dL_law_494 dL_law_495 (by decide) dL_law_496 dL_law_497 (by omega) hL ?_
    refine gl_argB hC hX hbl hbA i 6 rfl rfl dL_law_498 dL_law_499 dL_law_500 (by decide) dL_law_502 dL_law_503 (by omega) hL ?_
    refine gl_call (ad := adm) (lay := lm_lay) (M := (J, H)) (k := 0) hC [.int (xs (i + 1)), .int (xs (i + 2)), .int (xs (i + 3)), .int (xs (i + 4)), .int (xs (i + 5)), .int (xs (i + 6))] dL_law_504 ml_L_50 rfl rfl (ct_X8_weigh hm _ _ d0 d1 F w hO k2 (xs (i + 1)) (xs (i + 2)) (xs (i + 3)) (xs (i + 4)) (xs (i + 5)) (xs (i + 6))) hm ⟨(Nat.le_of_ble_eq_true rfl), (Nat.le_of_ble_eq_true rfl)⟩ (Nat.le_of_ble_eq_true rfl) (Nat.le_of_ble_eq_true rfl) (Nat.le_of_ble_eq_true rfl) (fun v8 M8 h8 => ?_)
    rcases h8 with ⟨q8, rfl, rfl⟩ | ⟨q8, h8⟩
    · exact gl_icmp_eq hC 785 dL_law_507 (by decide) (fun _ => hN _ _ _ _ hS) (fun q => absurd rfl q)
    · exact absurd (q7.symm.trans q8) (by decide)
  · obtain ⟨r7, rfl, rfl⟩ := h7
    refine gc_aload_n hC dL_law_472 rfl ?_
    refine gl_arg hC hX hbl hbA i 1 rfl rfl dL_law_473 dL_law_474 dL_law_475 (by decide) dL_law_476 dL_law_477 (by omega) hL ?_
    refine gl_arg hC hX hbl hbA i 2 rfl rfl dL_law_478 dL_law_479 dL_law_480 (by decide) dL_law_481 dL_law_482 (by omega) hL ?_
    refine gl_arg hC hX hbl hbA i 3 rfl rfl dL_law_483 dL_law_484 dL_law_485 (by decide) dL_law_486 dL_law_487 (by omega) hL ?_
    refine gl_arg hC hX hbl hbA i 4 rfl rfl dL_law_488 dL_law_489 dL_law_490 (by decide) dL_law_491 dL_law_492 (by omega) hL ?_
    refine gl_arg hC hX hbl hbA i 5 rfl rfl dL_law_493 dL_law_494 dL_law_495 (by decide) dL_law_496 dL_law_497 (by omega) hL ?_
    refine gl_argB hC hX hbl hbA i 6 rfl rfl dL_law_498 dL_law_499 dL_law_500 (by decide) dL_law_502 dL_law_503 (by omega) hL ?_
    refine gl_call (ad := adm) (lay := lm_lay) (M := (J, H)) (k := 0) hC [.int (xs (i + 1)), .int (xs (i + 2)), .int (xs (i + 3)), .int (xs (i + 4)), .int (xs (i + 5)), .int (xs (i + 6))] dL_law_504 ml_L_50 rfl rfl (ct_X8_weigh hm _ _ d0 d1 F w hO k2 (xs (i + 1)) (xs (i + 2)) (xs (i + 3)) (xs (i + 4)) (xs (i + 5)) (xs (i + 6))) hm ⟨(Nat.le_of_ble_eq_true rfl), (Nat.le_of_ble_eq_true rfl)⟩ (Nat.le_of_ble_eq_true rfl) (Nat.le_of_ble_eq_true rfl) (Nat.le_of_ble_eq_true rfl) (fun v8 M8 h8 => ?_)
    rcases h8 with ⟨q8, rfl, rfl⟩ | ⟨q8, h8⟩
    · exact absurd (q8.symm.trans q7) (by decide)
    · obtain ⟨r8, rfl, rfl⟩ := h8
      exact gl_icmp_eq hC 785 dL_law_507 (by decide) (fun _ => hN _ _ _ _ (gl_S_weigh hS (gl_wok q7))) (fun q => absurd (by rw [k6]) q)
set_option maxHeartbeats 4000000 in
set_option maxRecDepth 100000 in
theorem gl_k8 (hC : gc_X p s m args meth c RL cL_law ret 4 D cy A) (hx : gz_inj adx lx_lay) (hm : gz_inj adm lm_lay) (hX : va_X b L xs s s.heap) (hbl : b < s.heap.size) (hbA : ¬ A b) (hL : L ≤ 3584) (hi : i + 7 ≤ L) (hS : gl_S I J) (hN : ∀ I G J H, gl_S I J → gc_W p l e room_1 s m args below meth c D A 4 Q (gz_ws adx cy lx_lay (I, G) ++ gz_ws adm cy lm_lay (J, H)) 600000 7302250 785 [(0, .ref b), (1, .ref (adx 0)), (2, .ref (adm 0)), (3, .int (nI i))] []) : gc_W p l e room_1 s m args below meth c D A 4 Q (gz_ws adx cy lx_lay (I, G) ++ gz_ws adm cy lm_lay (J, H)) 600000 7302250 512 [(0, .ref b), (1, .ref (adx 0)), (2, .ref (adm 0)), (3, .int (nI i))] [] := by
  obtain ⟨d0, d1, F, w, th, g, hO, k1, k2, k3, k4, k5, k6, k7⟩ := id hS
  refine gc_aload_n hC dL_law_512 rfl ?_
  refine gl_arg hC hX hbl hbA i 1 rfl rfl dL_law_513 dL_law_514 dL_law_515 (by decide) dL_law_516 dL_law_517 (by omega) hL ?_
  refine gl_arg hC hX hbl hbA i 2 rfl rfl dL_law_518 dL_law_519 dL_law_520 (by decide) dL_law_521 dL_law_522 (by omega) hL ?_
  refine gl_call (ad := adx) (lay := lx_lay) (M := (I, G)) (k := 0) hC [.int (xs (i + 1)), .int (xs (i + 2))] dL_law_523 ml_L_51 rfl rfl (ct_X7_worth hx _ _ d0 d1 F w hO k1 k7 (xs (i + 1)) (xs (i + 2))) hx ⟨(Nat.le_of_ble_eq_true rfl), (Nat.le_of_ble_eq_true rfl)⟩ (Nat.le_of_ble_eq_true rfl) (Nat.le_of_ble_eq_true rfl) (Nat.le_of_ble_eq_true rfl) (fun v7 M7 h7 => ?_)
  obtain ⟨G1, rfl, rfl⟩ := h7
  refine gc_aload_n hC dL_law_526 rfl ?_
  refine gl_arg hC hX hbl hbA i 1 rfl rfl dL_law_527 dL_law_528 dL_law_529 (by decide) dL_law_530 dL_law_531 (by omega) hL ?_
  refine gl_arg hC hX hbl hbA i 2 rfl rfl dL_law_532 dL_law_533 dL_law_534 (by decide) dL_law_535 dL_law_536 (by omega) hL ?_
  refine gl_call (ad := adm) (lay := lm_lay) (M := (J, H)) (k := 0) hC [.int (xs (i + 1)), .int (xs (i + 2))] dL_law_537 ml_L_55 rfl rfl (ct_X8_worth hm _ _ d0 d1 F w hO k2 (by rw [k6]; exact k7) (xs (i + 1)) (xs (i + 2))) hm ⟨(Nat.le_of_ble_eq_true rfl), (Nat.le_of_ble_eq_true rfl)⟩ (Nat.le_of_ble_eq_true rfl) (Nat.le_of_ble_eq_true rfl) (Nat.le_of_ble_eq_true rfl) (fun v8 M8 h8 => ?_)
  obtain ⟨H1, rfl, rfl⟩ := h8
  refine gl_lcmp hC dL_law_540 ?_
  exact gl_if_eq hC 785 dL_law_541 (by decide) (fun _ => hN _ _ _ _ hS) (fun q => absurd (by rw [k6]; exact gl_cmp0 _) q)
set_option maxHeartbeats 4000000 in
set_option maxRecDepth 100000 in
theorem gl_k9 (hC : gc_X p s m args meth c RL cL_law ret 4 D cy A) (hx : gz_inj adx lx_lay) (hm : gz_inj adm lm_lay) (hX : va_X b L xs s s.heap) (hbl : b < s.heap.size) (hbA : ¬ A b) (hL : L ≤ 3584) (hi : i + 7 ≤ L) (hS : gl_S I J) (hN : ∀ I G J H, gl_S I J → gc_W p l e room_1 s m args below meth c D A 4 Q (gz_ws adx cy lx_lay (I, G) ++ gz_ws adm cy lm_lay (J, H)) 600000 7302250 785 [(0, .ref b), (1, .ref (adx 0)), (2, .ref (adm 0)), (3, .int (nI i))] []) : gc_W p l e room_1 s m args below meth c D A 4 Q (gz_ws adx cy lx_lay (I, G) ++ gz_ws adm cy lm_lay (J, H)) 600000 7302250 546 [(0, .ref b), (1, .ref (adx 0)), (2, .ref (adm 0)), (3, .int (nI i))] [] := by
  obtain ⟨d0, d1, F, w, th, g, hO, k1, k2, k3, k4, k5, k6, k7⟩ := id hS
  refine gc_aload_n hC dL_law_546 rfl ?_
  refine gl_arg hC hX hbl hbA i 1 rfl rfl dL_law_547 dL_law_548 dL_law_549 (by decide) dL_law_550 dL_law_551 (by omega) hL ?_
  refine gl_arg hC hX hbl hbA i 2 rfl rfl dL_law_552 dL_law_553 dL_law_554 (by decide) dL_law_555 dL_law_556 (by omega) hL ?_
  refine gl_call (ad := adx) (lay := lx_lay) (M := (I, G)) (k := 0) hC [.int (xs (i + 1)), .int (xs (i + 2))] dL_law_557 ml_L_56 rfl rfl (ct_X7_answer hx _ _ d0 d1 F w hO k1 k7 (xs (i + 1)) (xs (i + 2))) hx ⟨(Nat.le_of_ble_eq_true rfl), (Nat.le_of_ble_eq_true rfl)⟩ (Nat.le_of_ble_eq_true rfl) (Nat.le_of_ble_eq_true rfl) (Nat.le_of_ble_eq_true rfl) (fun v7 M7 h7 => ?_)
  obtain ⟨I1, G1, rfl, rfl, i1⟩ := h7
  refine gc_aload_n hC dL_law_560 rfl ?_
  refine gl_arg hC hX hbl hbA i 1 rfl rfl dL_law_561 dL_law_562 dL_law_563 (by decide) dL_law_564 dL_law_565 (by omega) hL ?_
  refine gl_arg hC hX hbl hbA i 2 rfl rfl dL_law_566 dL_law_567 dL_law_568 (by decide) dL_law_569 dL_law_570 (by omega) hL ?_
  refine gl_call (ad := adm) (lay := lm_lay) (M := (J, H)) (k := 0) hC [.int (xs (i + 1)), .int (xs (i + 2))] dL_law_571 ml_L_59 rfl rfl (ct_X8_answer hm _ _ d0 d1 F w hO k2 (by rw [k6]; exact k7) (xs (i + 1)) (xs (i + 2))) hm ⟨(Nat.le_of_ble_eq_true rfl), (Nat.le_of_ble_eq_true rfl)⟩ (Nat.le_of_ble_eq_true rfl) (Nat.le_of_ble_eq_true rfl) (Nat.le_of_ble_eq_true rfl) (fun v8 M8 h8 => ?_)
  obtain ⟨J1, H1, rfl, rfl, j1⟩ := h8
  refine gl_lcmp hC dL_law_574 ?_
  exact gl_if_eq hC 785 dL_law_575 (by decide) (fun _ => hN _ _ _ _ (gl_S_an hS i1 j1)) (fun q => absurd (by rw [k6]; exact gl_cmp0 _) q)
set_option maxHeartbeats 4000000 in
set_option maxRecDepth 100000 in
theorem gl_k10 (hC : gc_X p s m args meth c RL cL_law ret 4 D cy A) (hx : gz_inj adx lx_lay) (hm : gz_inj adm lm_lay) (hX : va_X b L xs s s.heap) (hbl : b < s.heap.size) (hbA : ¬ A b) (hL : L ≤ 3584) (hi : i + 7 ≤ L) (hS : gl_S I J) (hN : ∀ I G J H, gl_S I J → gc_W p l e room_1 s m args below meth c D A 4 Q (gz_ws adx cy lx_lay (I, G) ++ gz_ws adm cy lm_lay (J, H)) 600000 7302250 785 [(0, .ref b), (1, .ref (adx 0)), (2, .ref (adm 0)), (3, .int (nI i))] []) : gc_W p l e room_1 s m args below meth c D A 4 Q (gz_ws adx cy lx_lay (I, G) ++ gz_ws adm cy lm_lay (J, H)) 600000 7302250 580 [(0, .ref b), (1, .ref (adx 0)), (2, .ref (adm 0)), (3, .int (nI i))] [] := by
  obtain ⟨d0, d1, F, w, th, g, hO, k1, k2, k3, k4, k5, k6, k7⟩ := id hS
  refine gc_aload_n hC dL_law_580 rfl ?_
  refine gl_arg hC hX hbl hbA i 1 rfl rfl dL_law_581 dL_law_582 dL_law_583 (by decide) dL_law_584 dL_law_585 (by omega) hL ?_
  refine gl_arg hC hX hbl hbA i 2 rfl rfl dL_law_586 dL_law_587 dL_law_588 (by decide) dL_law_589 dL_law_590 (by omega) hL ?_
  refine gl_call (ad := adx) (lay := lx_lay) (M := (I, G)) (k := 0) hC [.int (xs (i + 1)), .int (xs (i + 2))] dL_law_591 ml_L_60 rfl rfl (ct_X7_opening hx _ _ d0 d1 F w hO k1 k7 (xs (i + 1)) (xs (i + 2))) hx ⟨(Nat.le_of_ble_eq_true rfl), (Nat.le_of_ble_eq_true rfl)⟩ (Nat.le_of_ble_eq_true rfl) (Nat.le_of_ble_eq_true rfl) (Nat.le_of_ble_eq_true rfl) (fun v7 M7 h7 => ?_)
  obtain ⟨I1, G1, rfl, rfl, i1⟩ := h7
  refine gc_aload_n hC dL_law_594 rfl ?_
  refine gl_arg hC hX hbl hbA i 1 rfl rfl dL_law_595 dL_law_596 dL_law_597 (by decide) dL_law_598 dL_law_599 (by omega) hL ?_
  refine gl_arg hC hX hbl hbA i 2 rfl rfl dL_law_600 dL_law_601 dL_law_602 (by decide) dL_law_603 dL_law_604 (by omega) hL ?_
  refine gl_call (ad := adm) (lay := lm_lay) (M := (J, H)) (k := 0) hC [.int (xs (i + 1)), .int (xs (i + 2))] dL_law_605 ml_L_63 rfl rfl (ct_X8_opening hm _ _ d0 d1 F w hO k2 (by rw [k6]; exact k7) (xs (i + 1)) (xs (i + 2))) hm ⟨(Nat.le_of_ble_eq_true rfl), (Nat.le_of_ble_eq_true rfl)⟩ (Nat.le_of_ble_eq_true rfl) (Nat.le_of_ble_eq_true rfl) (Nat.le_of_ble_eq_true rfl) (fun v8 M8 h8 => ?_)
  obtain ⟨J1, H1, rfl, rfl, j1⟩ := h8
  exact gl_icmp_eq hC 785 dL_law_608 (by decide) (fun _ => hN _ _ _ _ (gl_S_an hS i1 j1)) (fun q => absurd (by rw [k6]) q)
set_option maxHeartbeats 4000000 in
set_option maxRecDepth 100000 in
theorem gl_k11 (hC : gc_X p s m args meth c RL cL_law ret 4 D cy A) (hx : gz_inj adx lx_lay) (hm : gz_inj adm lm_lay) (hX : va_X b L xs s s.heap) (hbl : b < s.heap.size) (hbA : ¬ A b) (hL : L ≤ 3584) (hi : i + 7 ≤ L) (hS : gl_S I J) (hN : ∀ I G J H, gl_S I J → gc_W p l e room_1 s m args below meth c D A 4 Q (gz_ws adx cy lx_lay (I, G) ++ gz_ws adm cy lm_lay (J, H)) 600000 7302250 785 [(0, .ref b), (1, .ref (adx 0)), (2, .ref (adm 0)), (3, .int (nI i))] []) : gc_W p l e room_1 s m args below meth c D A 4 Q (gz_ws adx cy lx_lay (I, G) ++ gz_ws adm cy lm_lay (J, H)) 600000 7302250 613 [(0, .ref b), (1, .ref (adx 0)), (2, .ref (adm 0)), (3, .int (nI i))] [] := by
  obtain ⟨d0, d1, F, w, th, g, hO, k1, k2, k3, k4, k5, k6, k7⟩ := id hS
  refine gc_aload_n hC dL_law_613 rfl ?_
  refine gl_arg hC hX hbl hbA i 1 rfl rfl dL_law_614 dL_law_615 dL_law_616 (by decide) dL_law_617 dL_law_618 (by omega) hL ?_
  refine gl_arg hC hX hbl hbA i 2 rfl rfl dL_law_619 dL_law_620 dL_law_621 (by decide) dL_law_622 dL_law_623 (by omega) hL ?_
  refine gl_arg hC hX hbl hbA i 3 rfl rfl dL_law_624 dL_law_625 dL_law_626 (by decide) dL_law_627 dL_law_628 (by omega) hL ?_
  refine gl_call (ad := adx) (lay := lx_lay) (M := (I, G)) (k := 0) hC [.int (xs (i + 1)), .int (xs (i + 2)), .int (xs (i + 3))] dL_law_629 ml_L_64 rfl rfl (ct_X7_reply hx _ _ d0 d1 F w hO k1 k7 (xs (i + 1)) (xs (i + 2)) (xs (i + 3))) hx ⟨(Nat.le_of_ble_eq_true rfl), (Nat.le_of_ble_eq_true rfl)⟩ (Nat.le_of_ble_eq_true rfl) (Nat.le_of_ble_eq_true rfl) (Nat.le_of_ble_eq_true rfl) (fun v7 M7 h7 => ?_)
  obtain ⟨I1, G1, rfl, rfl, i1⟩ := h7
  refine gc_aload_n hC dL_law_632 rfl ?_
  refine gl_arg hC hX hbl hbA i 1 rfl rfl dL_law_633 dL_law_634 dL_law_635 (by decide) dL_law_636 dL_law_637 (by omega) hL ?_
  refine gl_arg hC hX hbl hbA i 2 rfl rfl dL_law_638 dL_law_639 dL_law_640 (by decide) dL_law_641 dL_law_642 (by omega) hL ?_
  refine gl_arg hC hX hbl hbA i 3 rfl rfl dL_law_643 dL_law_644 dL_law_645 (by decide) dL_law_646 dL_law_647 (by omega) hL ?_
  refine gl_call (ad := adm) (lay := lm_lay) (M := (J, H)) (k := 0) hC [.int (xs (i + 1)), .int (xs (i + 2)), .int (xs (i + 3))] dL_law_648 ml_L_67 rfl rfl (ct_X8_reply hm _ _ d0 d1 F w hO k2 (by rw [k6]; exact k7) (xs (i + 1)) (xs (i + 2)) (xs (i + 3))) hm ⟨(Nat.le_of_ble_eq_true rfl), (Nat.le_of_ble_eq_true rfl)⟩ (Nat.le_of_ble_eq_true rfl) (Nat.le_of_ble_eq_true rfl) (Nat.le_of_ble_eq_true rfl) (fun v8 M8 h8 => ?_)
  obtain ⟨J1, H1, rfl, rfl, j1⟩ := h8
  exact gl_icmp_eq hC 785 dL_law_651 (by decide) (fun _ => hN _ _ _ _ (gl_S_an hS i1 j1)) (fun q => absurd (by rw [k6]) q)
end GK
