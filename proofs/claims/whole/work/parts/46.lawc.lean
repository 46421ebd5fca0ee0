/-! THE LAW: its cases, three -/
section GK
variable {p : Program} {l : Launch} {e : Env} {s : State} {m : MethodId} {args : Array Value} {below : List Frame} {meth : Method} {c : Code} {D : va_G} {cy : Nat → ClassId} {A : Nat → Prop} {Q : State → Prop} {adx adm : Nat → Nat} {b L : Nat} {xs : Nat → Int32} {i : Nat} {I J : Nat → Nat → Int32} {G H : Nat → Nat → UInt64}
set_option maxHeartbeats 4000000 in
set_option maxRecDepth 100000 in
theorem gl_k12 (hC : gc_X p s m args meth c RL cL_law ret 4 D cy A) (hx : gz_inj adx lx_lay) (hm : gz_inj adm lm_lay) (hX : va_X b L xs s s.heap) (hbl : b < s.heap.size) (hbA : ¬ A b) (hL : L ≤ 3584) (hi : i + 7 ≤ L) (hS : gl_S I J) (hN : ∀ I G J H, gl_S I J → gc_W p l e room_1 s m args below meth c D A 4 Q (gz_ws adx cy lx_lay (I, G) ++ gz_ws adm cy lm_lay (J, H)) 600000 7302250 785 [(0, .ref b), (1, .ref (adx 0)), (2, .ref (adm 0)), (3, .int (nI i))] []) : gc_W p l e room_1 s m args below meth c D A 4 Q (gz_ws adx cy lx_lay (I, G) ++ gz_ws adm cy lm_lay (J, H)) 600000 7302250 656 [(0, .ref b), (1, .ref (adx 0)), (2, .ref (adm 0)), (3, .int (nI i))] [] := by
  obtain ⟨d0, d1, F, w, th, g, hO, k1, k2, k3, k4, k5, k6, k7⟩ := id hS
  refine gc_aload_n hC dL_law_656 rfl ?_
  refine gl_arg hC hX hbl hbA i 1 rfl rfl dL_law_657 dL_law_658 dL_law_659 (by decide) dL_law_660 dL_law_661 (by omega) hL ?_
  refine gl_call (ad := adx) (lay := lx_lay) (M := (I, G)) (k := 0) hC [.int (xs (i + 1))] dL_law_662 ml_L_68 rfl rfl (ct_X7_round hx _ _ d0 d1 F w hO k1 th g k3 (xs (i + 1))) hx ⟨(Nat.le_of_ble_eq_true rfl), (Nat.le_of_ble_eq_true rfl)⟩ (Nat.le_of_ble_eq_true rfl) (Nat.le_of_ble_eq_true rfl) (Nat.le_of_ble_eq_true rfl) (fun v7 M7 h7 => ?_)
  rcases h7 with ⟨q7, rfl, rfl⟩ | ⟨q7, I1, rfl, rfl, i1, i2⟩
  · refine gc_aload_n hC dL_law_665 rfl ?_
    refine gl_arg hC hX hbl hbA i 1 rfl rfl dL_law_666 dL_law_667 dL_law_668 (by decide) dL_law_669 dL_law_670 (by omega) hL ?_
    refine gl_call (ad := adm) (lay := lm_lay) (M := (J, H)) (k := 0) hC [.int (xs (i + 1))] dL_law_671 ml_L_71 rfl rfl (ct_X8_round hm _ _ d0 d1 F w hO k2 th g k4 (xs (i + 1))) hm ⟨(Nat.le_of_ble_eq_true rfl), (Nat.le_of_ble_eq_true rfl)⟩ (Nat.le_of_ble_eq_true rfl) (Nat.le_of_ble_eq_true rfl) (Nat.le_of_ble_eq_true rfl) (fun v8 M8 h8 => ?_)
    rcases h8 with ⟨q8, rfl, rfl⟩ | ⟨q8, J1, rfl, rfl, j1, j2, j3⟩
    · exact gl_icmp_eq hC 785 dL_law_674 (by decide) (fun _ => hN _ _ _ _ hS) (fun q => absurd rfl q)
    · exact absurd q7 q8
  · refine gc_aload_n hC dL_law_665 rfl ?_
    refine gl_arg hC hX hbl hbA i 1 rfl rfl dL_law_666 dL_law_667 dL_law_668 (by decide) dL_law_669 dL_law_670 (by omega) hL ?_
    refine gl_call (ad := adm) (lay := lm_lay) (M := (J, H)) (k := 0) hC [.int (xs (i + 1))] dL_law_671 ml_L_71 rfl rfl (ct_X8_round hm _ _ d0 d1 F w hO k2 th g k4 (xs (i + 1))) hm ⟨(Nat.le_of_ble_eq_true rfl), (Nat.le_of_ble_eq_true rfl)⟩ (Nat.le_of_ble_eq_true rfl) (Nat.le_of_ble_eq_true rfl) (Nat.le_of_ble_eq_true rfl) (fun v8 M8 h8 => ?_)
    rcases h8 with ⟨q8, rfl, rfl⟩ | ⟨q8, J1, rfl, rfl, j1, j2, j3⟩
    · exact absurd q8 q7
    · exact gl_icmp_eq hC 785 dL_law_674 (by decide) (fun _ => hN _ _ _ _ (gl_S_round hO k1 k6 k7 i1 i2 j1 j2 j3)) (fun q => absurd rfl q)
set_option maxHeartbeats 4000000 in
set_option maxRecDepth 100000 in
theorem gl_k13 (hC : gc_X p s m args meth c RL cL_law ret 4 D cy A) (hx : gz_inj adx lx_lay) (hm : gz_inj adm lm_lay) (hX : va_X b L xs s s.heap) (hbl : b < s.heap.size) (hbA : ¬ A b) (hL : L ≤ 3584) (hi : i + 7 ≤ L) (hS : gl_S I J) (hN : ∀ I G J H, gl_S I J → gc_W p l e room_1 s m args below meth c D A 4 Q (gz_ws adx cy lx_lay (I, G) ++ gz_ws adm cy lm_lay (J, H)) 600000 7302250 785 [(0, .ref b), (1, .ref (adx 0)), (2, .ref (adm 0)), (3, .int (nI i))] []) : gc_W p l e room_1 s m args below meth c D A 4 Q (gz_ws adx cy lx_lay (I, G) ++ gz_ws adm cy lm_lay (J, H)) 600000 7302250 679 [(0, .ref b), (1, .ref (adx 0)), (2, .ref (adm 0)), (3, .int (nI i))] [] := by
  obtain ⟨d0, d1, F, w, th, g, hO, k1, k2, k3, k4, k5, k6, k7⟩ := id hS
  refine gc_aload_n hC dL_law_679 rfl ?_
  refine gl_arg hC hX hbl hbA i 1 rfl rfl dL_law_680 dL_law_681 dL_law_682 (by decide) dL_law_683 dL_law_684 (by omega) hL ?_
  refine gl_call (ad := adx) (lay := lx_lay) (M := (I, G)) (k := 0) hC [.int (xs (i + 1))] dL_law_685 ml_L_72 rfl rfl (ct_X7_held hx _ _ th g k3 (xs (i + 1))) hx ⟨(Nat.le_of_ble_eq_true rfl), (Nat.le_of_ble_eq_true rfl)⟩ (Nat.le_of_ble_eq_true rfl) (Nat.le_of_ble_eq_true rfl) (Nat.le_of_ble_eq_true rfl) (fun v7 M7 h7 => ?_)
  obtain ⟨rfl, rfl⟩ := h7
  refine gc_aload_n hC dL_law_688 rfl ?_
  refine gl_arg hC hX hbl hbA i 1 rfl rfl dL_law_689 dL_law_690 dL_law_691 (by decide) dL_law_692 dL_law_693 (by omega) hL ?_
  refine gl_call (ad := adm) (lay := lm_lay) (M := (J, H)) (k := 0) hC [.int (xs (i + 1))] dL_law_694 ml_L_75 rfl rfl (ct_X8_held hm _ _ th g k4 (xs (i + 1))) hm ⟨(Nat.le_of_ble_eq_true rfl), (Nat.le_of_ble_eq_true rfl)⟩ (Nat.le_of_ble_eq_true rfl) (Nat.le_of_ble_eq_true rfl) (Nat.le_of_ble_eq_true rfl) (fun v8 M8 h8 => ?_)
  obtain ⟨rfl, rfl⟩ := h8
  exact gl_icmp_eq hC 785 dL_law_697 (by decide) (fun _ => hN _ _ _ _ hS) (fun q => absurd rfl q)
set_option maxHeartbeats 4000000 in
set_option maxRecDepth 100000 in
theorem gl_k14 (hC : gc_X p s m args meth c RL cL_law ret 4 D cy A) (hx : gz_inj adx lx_lay) (hm : gz_inj adm lm_lay) (hX : va_X b L xs s s.heap) (hbl : b < s.heap.size) (hbA : ¬ A b) (hL : L ≤ 3584) (hi : i + 7 ≤ L) (hS : gl_S I J) (hN : ∀ I G J H, gl_S I J → gc_W p l e room_1 s m args below meth c D A 4 Q (gz_ws adx cy lx_lay (I, G) ++ gz_ws adm cy lm_lay (J, H)) 600000 7302250 785 [(0, .ref b), (1, .ref (adx 0)), (2, .ref (adm 0)), (3, .int (nI i))] []) : gc_W p l e room_1 s m args below meth c D A 4 Q (gz_ws adx cy lx_lay (I, G) ++ gz_ws adm cy lm_lay (J, H)) 600000 7302250 702 [(0, .ref b), (1, .ref (adx 0)), (2, .ref (adm 0)), (3, .int (nI i))] [] := by
  obtain ⟨d0, d1, F, w, th, g, hO, k1, k2, k3, k4, k5, k6, k7⟩ := id hS
  refine gc_aload_n hC dL_law_702 rfl ?_
  refine gl_arg hC hX hbl hbA i 1 rfl rfl dL_law_703 dL_law_704 dL_law_705 (by decide) dL_law_706 dL_law_707 (by omega) hL ?_
  refine gl_call (ad := adx) (lay := lx_lay) (M := (I, G)) (k := 0) hC [.int (xs (i + 1))] dL_law_708 ml_L_76 rfl rfl (ct_X7_move hx _ _ d0 d1 F w hO k1 th g k3 k5 (xs (i + 1))) hx ⟨(Nat.le_of_ble_eq_true rfl), (Nat.le_of_ble_eq_true rfl)⟩ (Nat.le_of_ble_eq_true rfl) (Nat.le_of_ble_eq_true rfl) (Nat.le_of_ble_eq_true rfl) (fun v7 M7 h7 => ?_)
  obtain ⟨I1, rfl, rfl, i1, i2⟩ := h7
  refine gc_aload_n hC dL_law_711 rfl ?_
  refine gl_arg hC hX hbl hbA i 1 rfl rfl dL_law_712 dL_law_713 dL_law_714 (by decide) dL_law_715 dL_law_716 (by omega) hL ?_
  refine gl_call (ad := adm) (lay := lm_lay) (M := (J, H)) (k := 0) hC [.int (xs (i + 1))] dL_law_717 ml_L_79 rfl rfl (ct_X8_move hm _ _ d0 d1 F w hO k2 th g k4 k5 (xs (i + 1))) hm ⟨(Nat.le_of_ble_eq_true rfl), (Nat.le_of_ble_eq_true rfl)⟩ (Nat.le_of_ble_eq_true rfl) (Nat.le_of_ble_eq_true rfl) (Nat.le_of_ble_eq_true rfl) (fun v8 M8 h8 => ?_)
  obtain ⟨J1, rfl, rfl, j1, j2, j3⟩ := h8
  exact gl_icmp_eq hC 785 dL_law_720 (by decide) (fun _ => hN _ _ _ _ (gl_S_move hO k1 k5 k6 k7 i1 i2 j1 j2 j3)) (fun q => absurd rfl q)
set_option maxHeartbeats 4000000 in
set_option maxRecDepth 100000 in
theorem gl_k15 (hC : gc_X p s m args meth c RL cL_law ret 4 D cy A) (hx : gz_inj adx lx_lay) (hm : gz_inj adm lm_lay) (hX : va_X b L xs s s.heap) (hbl : b < s.heap.size) (hbA : ¬ A b) (hL : L ≤ 3584) (hi : i + 7 ≤ L) (hS : gl_S I J) (hN : ∀ I G J H, gl_S I J → gc_W p l e room_1 s m args below meth c D A 4 Q (gz_ws adx cy lx_lay (I, G) ++ gz_ws adm cy lm_lay (J, H)) 600000 7302250 785 [(0, .ref b), (1, .ref (adx 0)), (2, .ref (adm 0)), (3, .int (nI i))] []) : gc_W p l e room_1 s m args below meth c D A 4 Q (gz_ws adx cy lx_lay (I, G) ++ gz_ws adm cy lm_lay (J, H)) 600000 7302250 725 [(0, .ref b), (1, .ref (adx 0)), (2, .ref (adm 0)), (3, .int (nI i))] [] := by
  obtain ⟨d0, d1, F, w, th, g, hO, k1, k2, k3, k4, k5, k6, k7⟩ := id hS
  refine gc_aload_n hC dL_law_725 rfl ?_
  refine gl_arg hC hX hbl hbA i 1 rfl rfl dL_law_726 dL_law_727 dL_law_728 (by decide) dL_law_729 dL_law_730 (by omega) hL ?_
  refine gl_call (ad := adx) (lay := lx_lay) (M := (I, G)) (k := 0) hC [.int (xs (i + 1))] dL_law_731 ml_L_80 rfl rfl (ct_X7_about hx _ _ th g k3 (xs (i + 1))) hx ⟨(Nat.le_of_ble_eq_true rfl), (Nat.le_of_ble_eq_true rfl)⟩ (Nat.le_of_ble_eq_true rfl) (Nat.le_of_ble_eq_true rfl) (Nat.le_of_ble_eq_true rfl) (fun v7 M7 h7 => ?_)
  obtain ⟨rfl, rfl⟩ := h7
  refine gc_aload_n hC dL_law_734 rfl ?_
  refine gl_arg hC hX hbl hbA i 1 rfl rfl dL_law_735 dL_law_736 dL_law_737 (by decide) dL_law_738 dL_law_739 (by omega) hL ?_
  refine gl_call (ad := adm) (lay := lm_lay) (M := (J, H)) (k := 0) hC [.int (xs (i + 1))] dL_law_740 ml_L_83 rfl rfl (ct_X8_about hm _ _ th g k4 (xs (i + 1))) hm ⟨(Nat.le_of_ble_eq_true rfl), (Nat.le_of_ble_eq_true rfl)⟩ (Nat.le_of_ble_eq_true rfl) (Nat.le_of_ble_eq_true rfl) (Nat.le_of_ble_eq_true rfl) (fun v8 M8 h8 => ?_)
  obtain ⟨rfl, rfl⟩ := h8
  exact gl_icmp_eq hC 785 dL_law_743 (by decide) (fun _ => hN _ _ _ _ hS) (fun q => absurd rfl q)
set_option maxHeartbeats 4000000 in
set_option maxRecDepth 100000 in
theorem gl_k16 (hC : gc_X p s m args meth c RL cL_law ret 4 D cy A) (hx : gz_inj adx lx_lay) (hm : gz_inj adm lm_lay) (hX : va_X b L xs s s.heap) (hbl : b < s.heap.size) (hbA : ¬ A b) (hL : L ≤ 3584) (hi : i + 7 ≤ L) (hS : gl_S I J) (hN : ∀ I G J H, gl_S I J → gc_W p l e room_1 s m args below meth c D A 4 Q (gz_ws adx cy lx_lay (I, G) ++ gz_ws adm cy lm_lay (J, H)) 600000 7302250 785 [(0, .ref b), (1, .ref (adx 0)), (2, .ref (adm 0)), (3, .int (nI i))] []) : gc_W p l e room_1 s m args below meth c D A 4 Q (gz_ws adx cy lx_lay (I, G) ++ gz_ws adm cy lm_lay (J, H)) 600000 7302250 748 [(0, .ref b), (1, .ref (adx 0)), (2, .ref (adm 0)), (3, .int (nI i))] [] := by
  obtain ⟨d0, d1, F, w, th, g, hO, k1, k2, k3, k4, k5, k6, k7⟩ := id hS
  refine gc_aload_n hC dL_law_748 rfl ?_
  refine gl_arg hC hX hbl hbA i 1 rfl rfl dL_law_749 dL_law_750 dL_law_751 (by decide) dL_law_752 dL_law_753 (by omega) hL ?_
  refine gl_call (ad := adx) (lay := lx_lay) (M := (I, G)) (k := 0) hC [.int (xs (i + 1))] dL_law_754 ml_L_84 rfl rfl (ct_X7_count hx _ _ d0 d1 F w hO k1 th g k3 (xs (i + 1))) hx ⟨(Nat.le_of_ble_eq_true rfl), (Nat.le_of_ble_eq_true rfl)⟩ (Nat.le_of_ble_eq_true rfl) (Nat.le_of_ble_eq_true rfl) (Nat.le_of_ble_eq_true rfl) (fun v7 M7 h7 => ?_)
  obtain ⟨rfl, rfl⟩ := h7
  refine gc_aload_n hC dL_law_757 rfl ?_
  refine gl_arg hC hX hbl hbA i 1 rfl rfl dL_law_758 dL_law_759 dL_law_760 (by decide) dL_law_761 dL_law_762 (by omega) hL ?_
  refine gl_call (ad := adm) (lay := lm_lay) (M := (J, H)) (k := 0) hC [.int (xs (i + 1))] dL_law_763 ml_L_87 rfl rfl (ct_X8_count hm _ _ d0 d1 F w hO k2 th g k4 (xs (i + 1))) hm ⟨(Nat.le_of_ble_eq_true rfl), (Nat.le_of_ble_eq_true rfl)⟩ (Nat.le_of_ble_eq_true rfl) (Nat.le_of_ble_eq_true rfl) (Nat.le_of_ble_eq_true rfl) (fun v8 M8 h8 => ?_)
  obtain ⟨rfl, rfl⟩ := h8
  exact gl_icmp_eq hC 785 dL_law_766 (by decide) (fun _ => hN _ _ _ _ hS) (fun q => absurd rfl q)
set_option maxHeartbeats 4000000 in
set_option maxRecDepth 100000 in
theorem gl_k17 (hC : gc_X p s m args meth c RL cL_law ret 4 D cy A) (hx : gz_inj adx lx_lay) (hm : gz_inj adm lm_lay) (hX : va_X b L xs s s.heap) (hbl : b < s.heap.size) (hbA : ¬ A b) (hL : L ≤ 3584) (hi : i + 7 ≤ L) (hS : gl_S I J) (hN : ∀ I G J H, gl_S I J → gc_W p l e room_1 s m args below meth c D A 4 Q (gz_ws adx cy lx_lay (I, G) ++ gz_ws adm cy lm_lay (J, H)) 600000 7302250 785 [(0, .ref b), (1, .ref (adx 0)), (2, .ref (adm 0)), (3, .int (nI i))] []) : gc_W p l e room_1 s m args below meth c D A 4 Q (gz_ws adx cy lx_lay (I, G) ++ gz_ws adm cy lm_lay (J, H)) 600000 7302250 771 [(0, .ref b), (1, .ref (adx 0)), (2, .ref (adm 0)), (3, .int (nI i))] [] := by
  obtain ⟨d0, d1, F, w, th, g, hO, k1, k2, k3, k4, k5, k6, k7⟩ := id hS
  refine gc_aload_n hC dL_law_771 rfl ?_
  refine gl_call (ad := adx) (lay := lx_lay) (M := (I, G)) (k := 0) hC [] dL_law_772 ml_L_88 rfl rfl (ct_X7_digest hx _ _ d0 d1 F w hO k1 th g k3) hx ⟨(Nat.le_of_ble_eq_true rfl), (Nat.le_of_ble_eq_true rfl)⟩ (Nat.le_of_ble_eq_true rfl) (Nat.le_of_ble_eq_true rfl) (Nat.le_of_ble_eq_true rfl) (fun v7 M7 h7 => ?_)
  obtain ⟨rfl, rfl⟩ := h7
  refine gc_aload_n hC dL_law_775 rfl ?_
  refine gl_call (ad := adm) (lay := lm_lay) (M := (J, H)) (k := 0) hC [] dL_law_776 ml_L_92 rfl rfl (ct_X8_digest hm _ _ d0 d1 F w hO k2 th g k4) hm ⟨(Nat.le_of_ble_eq_true rfl), (Nat.le_of_ble_eq_true rfl)⟩ (Nat.le_of_ble_eq_true rfl) (Nat.le_of_ble_eq_true rfl) (Nat.le_of_ble_eq_true rfl) (fun v8 M8 h8 => ?_)
  obtain ⟨rfl, rfl⟩ := h8
  refine gl_lcmp hC dL_law_779 ?_
  exact gl_if_eq hC 785 dL_law_780 (by decide) (fun _ => hN _ _ _ _ hS) (fun q => absurd (by rw [k6]; exact gl_cmp0 _) q)
end GK
