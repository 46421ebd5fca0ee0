/-! the table: which bids hold -/
def tb_cf (d F : Nat) (w : Bool) (h f : Nat) : Nat := tb_cnt (tb_rw d F h) d f + cond (w && decide (0 < f)) (tb_cnt (tb_rw d F h) d 0) 0
def tb_t (d0 d1 F : Nat) (w : Bool) (g h b : Nat) : Bool := decide (b / F + 1 ≤ tb_cf d0 F w g (b % F) + tb_cf d1 F w h (b % F))
def tb_tf (d0 d1 F : Nat) (w : Bool) (pl own oth b : Nat) : Bool := if pl = 0 then tb_t d0 d1 F w own oth b else tb_t d0 d1 F w oth own b
def tb_sum (f : Nat → Nat) : Nat → Nat
  | 0 => 0
  | n + 1 => tb_sum f n + f n
def tb_d (d0 d1 pl : Nat) : Nat := if pl = 0 then d0 else d1
def tb_w (d F h : Nat) : Nat := tb_ord (tb_rw d F h) d F
/-- in how many throws of the other one a bid holds -/
def tb_wh (d0 d1 F : Nat) (w : Bool) (pl h b : Nat) : Nat → Nat := tb_sum (fun k => cond (tb_tf d0 d1 F w pl h k b) (tb_w (tb_d d0 d1 (1 - pl)) F k) 0)
def cf_ok (d0 d1 F : Nat) : Prop := tb_ok d0 F ∧ tb_ok d1 F ∧ (d0 + d1) * F ≤ 8
def xi_tab (d0 d1 F : Nat) (w : Bool) (I : Nat → Nat → Int32) : Prop := I 1 3 = nI F ∧ I 1 4 = nI ((d0 + d1) * F) ∧ I 1 5 = gz_b w ∧ xi_cup 3 d0 F I ∧ xi_cup 7 d1 F I ∧ ∀ g, g < tb_n d0 F → ∀ h, h < tb_n d1 F → ∀ b, b < (d0 + d1) * F → I 2 ((g * 4 + h) * 8 + b) = gz_b (tb_t d0 d1 F w g h b)
theorem lx_cupP {pl : Nat} (h : pl < 2) : lx_cup (3 + 4 * pl) := by
  match pl, h with
  | 0, _ => exact lx_cup3
  | 1, _ => exact lx_cup7
theorem xi_cupP {d0 d1 F : Nat} {w : Bool} {I : Nat → Nat → Int32} (h : xi_tab d0 d1 F w I) {pl : Nat} (hp : pl < 2) : xi_cup (3 + 4 * pl) (tb_d d0 d1 pl) F I := by
  match pl, hp with
  | 0, _ => exact h.2.2.2.1
  | 1, _ => exact h.2.2.2.2.1
theorem cf_okP {d0 d1 F : Nat} (h : cf_ok d0 d1 F) {pl : Nat} (hp : pl < 2) : tb_ok (tb_d d0 d1 pl) F := by
  match pl, hp with
  | 0, _ => exact h.1
  | 1, _ => exact h.2.1
theorem gz_beq1 (b : Bool) : gz_b b = 1 ↔ b = true := by cases b <;> decide
theorem cf_pow {d0 d1 F : Nat} (h : cf_ok d0 d1 F) : FP.dcmp (FP.i2d (nI (F ^ d0 * F ^ d1))) 0 = some .gt := by
  obtain ⟨h1, h2, h3⟩ := h
  rcases h1 with ⟨rfl, rfl⟩ | ⟨rfl, rfl⟩ | ⟨rfl, rfl⟩ | ⟨rfl, rfl⟩ | ⟨rfl, rfl⟩ <;> rcases h2 with ⟨rfl, e⟩ | ⟨rfl, e⟩ | ⟨rfl, e⟩ | ⟨rfl, e⟩ | ⟨rfl, e⟩ <;> first | exact absurd e (by decide) | exact absurd h3 (by decide) | decide +kernel
section CT
variable {l : Launch} {D : va_G} {ad : Nat → Nat} {cy : Nat → ClassId}
set_option maxHeartbeats 4000000 in
set_option maxRecDepth 100000 in
theorem ct_X6_spotOf (hJ : gz_inj ad lx_lay) (I : Nat → Nat → Int32) (G : Nat → Nat → UInt64) (g h b : Nat) (x y z : Int32) (hx : x = nI g) (hy : y = nI h) (hz : z = nI b) : gz_Ct l D ad cy lx_lay yX6_spotOf cX6_spotOf 3 (some .int) 0 [.int x, .int y, .int z] (I, G) (fun v M1 => v = some (.int (nI ((g * 4 + h) * 8 + b))) ∧ M1 = (I, G)) := by
  refine gz_met (by decide +kernel) hJ (Nat.le_of_ble_eq_true rfl) ?_
  intro p e s m args below meth c hC
  refine gz_iload_n hC dX6_spotOf_0 rfl ?_
  refine gz_iconst hC (4) dX6_spotOf_1 (by decide) ?_
  refine gz_imul hC dX6_spotOf_2 ?_
  refine gz_iload_n hC dX6_spotOf_3 rfl ?_
  refine gz_iadd hC dX6_spotOf_4 ?_
  refine gz_bipush hC (8) dX6_spotOf_5 (by decide) ?_
  refine gz_imul hC dX6_spotOf_7 ?_
  refine gz_iload_n hC dX6_spotOf_8 rfl ?_
  refine gz_iadd hC dX6_spotOf_9 ?_
  exact gz_iret hC dX6_spotOf_10 ⟨gz_v (by rw [hx, hy, hz, gz_n4, gz_n8, pk_mul, nI_add, pk_mul, nI_add]), rfl⟩
set_option maxHeartbeats 4000000 in
set_option maxRecDepth 100000 in
theorem ct_X6_cup (hJ : gz_inj ad lx_lay) (I : Nat → Nat → Int32) (G : Nat → Nat → UInt64) (p0 : Int32) (k : Nat) (hk : (p0 = 0 ∧ k = 3) ∨ (¬ p0 = 0 ∧ k = 7)) : gz_Ct l D ad cy lx_lay yX6_cup cX6_cup 2 (some (.object "DiceCups$Cup")) 0 [.ref (ad 1), .int p0] (I, G) (fun v M1 => v = some (.ref (ad k)) ∧ M1 = (I, G)) := by
  refine gz_met (by decide +kernel) hJ (Nat.le_of_ble_eq_true rfl) ?_
  intro p e s m args below meth c hC
  refine gz_iload_n hC dX6_cup_0 rfl ?_
  refine gz_if_ne hC 11 dX6_cup_1 (by decide) (fun c1 => ?_) (fun c1 => ?_)
  · refine gz_aload_n hC dX6_cup_11 rfl ?_
    refine gz_getR (j := 1) hC dX6_cup_12 cf_X6 fl_X6_18 rfl rfl (by decide) ?_
    exact gz_aret hC dX6_cup_15 ⟨by first | (rw [(hk.resolve_right (fun q => q.1 c1)).2]; done) | (rw [(hk.resolve_left (fun q => c1 q.1)).2]; done), rfl⟩
  · refine gz_aload_n hC dX6_cup_4 rfl ?_
    refine gz_getR (j := 0) hC dX6_cup_5 cf_X6 fl_X6_12 rfl rfl (by decide) ?_
    refine gz_goto hC 15 dX6_cup_8 (by decide) ?_
    exact gz_aret hC dX6_cup_15 ⟨by first | (rw [(hk.resolve_right (fun q => q.1 c1)).2]; done) | (rw [(hk.resolve_left (fun q => c1 q.1)).2]; done), rfl⟩
set_option maxHeartbeats 4000000 in
set_option maxRecDepth 100000 in
theorem ct_X6_countsFor (hJ : gz_inj ad lx_lay) (I : Nat → Nat → Int32) (G : Nat → Nat → UInt64) (k : Nat) (hK : lx_cup k) (d F : Nat) (w : Bool) (hw : I 1 5 = gz_b w) (hT : tb_ok d F) (hc : xi_cup k d F I) (h f : Nat) (x y : Int32) (hx : x = nI h) (hy : y = nI f) (hh : h < tb_n d F) (hf : f < 4) : gz_Ct l D ad cy lx_lay yX6_countsFor cX6_countsFor 5 (some .int) 2 [.ref (ad 1), .ref (ad k), .int x, .int y] (I, G) (fun v M1 => v = some (.int (nI (tb_cf d F w h f))) ∧ M1 = (I, G)) := by
  obtain ⟨T1, T2, T3, T4, T5, T6, T7, T8, T9⟩ := tb_facts hT
  refine gz_met (by decide +kernel) hJ (Nat.le_of_ble_eq_true rfl) ?_
  intro p e s m args below meth c hC
  refine gz_aload_n hC dX6_countsFor_0 rfl ?_
  refine gz_iload_n hC dX6_countsFor_1 rfl ?_
  refine gz_iload_n hC dX6_countsFor_2 rfl ?_
  refine gz_callV2 hC dX6_countsFor_3 ml_X6_69 hK.1 rfl (by decide) (by decide) (Nat.le_of_ble_eq_true rfl) (ct_X1_pipsOf hJ _ _ k hK h f _ _ hx hy (by omega) hf) (fun v3 M3 hp3 => ?_)
  obtain ⟨rfl, rfl⟩ := hp3
  rw [hc.2.2.2.1 h hh f hf]
  refine gz_istore hC dX6_countsFor_6 (by decide) ?_
  refine gz_aload_n hC dX6_countsFor_8 rfl ?_
  refine gz_getI (j := 5) hC dX6_countsFor_9 cf_X6 fl_X6_29 rfl rfl (by decide) ?_
  refine gz_if_eq hC 31 dX6_countsFor_12 (by decide) (fun c12 => ?_) (fun c12 => ?_)
  · rw [hw] at c12
    refine gz_iload hC dX6_countsFor_31 rfl ?_
    exact gz_iret hC dX6_countsFor_33 ⟨gz_v (by first | (rw [nI_add]; unfold tb_cf; rw [gz_b1 c12, show decide (0 < f) = true from decide_eq_true (by rcases Nat.eq_zero_or_pos f with q | q; exact absurd (by rw [hy, q]; decide) c16; exact q)]; rfl) | (unfold tb_cf; rw [show decide (0 < f) = false from decide_eq_false (fun q => nI_nle q (by omega) (by rw [← hy]; exact c16)), Bool.and_false]; rfl) | (unfold tb_cf; rw [gz_b0 c12]; rfl)), rfl⟩
  · rw [hw] at c12
    refine gz_iload_n hC dX6_countsFor_15 rfl ?_
    refine gz_if_le hC 31 dX6_countsFor_16 (by decide) (fun c16 => ?_) (fun c16 => ?_)
    · refine gz_iload hC dX6_countsFor_31 rfl ?_
      exact gz_iret hC dX6_countsFor_33 ⟨gz_v (by first | (rw [nI_add]; unfold tb_cf; rw [gz_b1 c12, show decide (0 < f) = true from decide_eq_true (by rcases Nat.eq_zero_or_pos f with q | q; exact absurd (by rw [hy, q]; decide) c16; exact q)]; rfl) | (unfold tb_cf; rw [show decide (0 < f) = false from decide_eq_false (fun q => nI_nle q (by omega) (by rw [← hy]; exact c16)), Bool.and_false]; rfl) | (unfold tb_cf; rw [gz_b0 c12]; rfl)), rfl⟩
    · refine gz_iload hC dX6_countsFor_19 rfl ?_
      refine gz_aload_n hC dX6_countsFor_21 rfl ?_
      refine gz_iload_n hC dX6_countsFor_22 rfl ?_
      refine gz_iconst hC (0) dX6_countsFor_23 (by decide) ?_
      refine gz_callV2 hC dX6_countsFor_24 ml_X6_69 hK.1 rfl (by decide) (by decide) (Nat.le_of_ble_eq_true rfl) (ct_X1_pipsOf hJ _ _ k hK h 0 _ _ hx rfl (by omega) (by omega)) (fun v24 M24 hp24 => ?_)
      obtain ⟨rfl, rfl⟩ := hp24
      rw [hc.2.2.2.1 h hh 0 (by omega)]
      refine gz_iadd hC dX6_countsFor_27 ?_
      refine gz_goto hC 33 dX6_countsFor_28 (by decide) ?_
      exact gz_iret hC dX6_countsFor_33 ⟨gz_v (by first | (rw [nI_add]; unfold tb_cf; rw [gz_b1 c12, show decide (0 < f) = true from decide_eq_true (by rcases Nat.eq_zero_or_pos f with q | q; exact absurd (by rw [hy, q]; decide) c16; exact q)]; rfl) | (unfold tb_cf; rw [show decide (0 < f) = false from decide_eq_false (fun q => nI_nle q (by omega) (by rw [← hy]; exact c16)), Bool.and_false]; rfl) | (unfold tb_cf; rw [gz_b0 c12]; rfl)), rfl⟩
set_option maxHeartbeats 4000000 in
set_option maxRecDepth 100000 in
theorem ct_X6_judge (hJ : gz_inj ad lx_lay) (I : Nat → Nat → Int32) (G : Nat → Nat → UInt64) (d0 d1 F : Nat) (w : Bool) (hw : I 1 5 = gz_b w) (hF : I 1 3 = nI F) (hc0 : xi_cup 3 d0 F I) (hc1 : xi_cup 7 d1 F I) (hO : cf_ok d0 d1 F) (g h b : Nat) (x1 x2 x3 : Int32) (hx1 : x1 = nI g) (hx2 : x2 = nI h) (hx3 : x3 = nI b) (hg : g < tb_n d0 F) (hh : h < tb_n d1 F) (hb : b < (d0 + d1) * F) : gz_Ct l D ad cy lx_lay yX6_judge cX6_judge 7 none 3 [.ref (ad 1), .int x1, .int x2, .int x3] (I, G) (fun v M1 => v = none ∧ M1 = (gz_up I 2 ((g * 4 + h) * 8 + b) (gz_b (tb_t d0 d1 F w g h b)), G)) := by
  obtain ⟨T1, T2, T3, T4, T5, T6, T7, T8, T9⟩ := tb_facts hO.1
  obtain ⟨U1, U2, U3, U4, U5, U6, U7, U8, U9⟩ := tb_facts hO.2.1
  have hO3 := hO.2.2
  have hmod : b % F < F := Nat.mod_lt b (by omega)
  have hdiv : b / F ≤ b := Nat.div_le_self b F
  have hcl0 : tb_cf d0 F w g (b % F) ≤ 6 := by
    unfold tb_cf
    have a1 := tb_cnt_le (tb_rw d0 F g) (b % F) d0
    have a2 := tb_cnt_le (tb_rw d0 F g) 0 d0
    cases (w && decide (0 < b % F)) <;> simp only [cond_true, cond_false] <;> omega
  have hcl1 : tb_cf d1 F w h (b % F) ≤ 6 := by
    unfold tb_cf
    have a1 := tb_cnt_le (tb_rw d1 F h) (b % F) d1
    have a2 := tb_cnt_le (tb_rw d1 F h) 0 d1
    cases (w && decide (0 < b % F)) <;> simp only [cond_true, cond_false] <;> omega
  refine gz_met (by decide +kernel) hJ (Nat.le_of_ble_eq_true rfl) ?_
  intro p e s m args below meth c hC
  refine gz_iload_n hC dX6_judge_0 rfl ?_
  refine gz_aload_n hC dX6_judge_1 rfl ?_
  refine gz_getI (j := 3) hC dX6_judge_2 cf_X6 fl_X6_25 rfl rfl (by decide) ?_
  refine gz_callSN2 hC dX6_judge_5 ml_X6_50 (by decide) (by decide) (Nat.le_of_ble_eq_true rfl) (ct_X7_leftOver hJ _ _ _ _ b F hx3 hF (by omega) (by omega) (by omega)) (fun v5 M5 hp5 => ?_)
  obtain ⟨rfl, rfl⟩ := hp5
  refine gz_istore hC dX6_judge_8 (by decide) ?_
  refine gz_iload_n hC dX6_judge_10 rfl ?_
  refine gz_aload_n hC dX6_judge_11 rfl ?_
  refine gz_getI (j := 3) hC dX6_judge_12 cf_X6 fl_X6_25 rfl rfl (by decide) ?_
  refine gz_callSN2 hC dX6_judge_15 ml_X6_54 (by decide) (by decide) (Nat.le_of_ble_eq_true rfl) (ct_X7_cut hJ _ _ _ _ b F hx3 hF (by omega) (by omega) (by omega)) (fun v15 M15 hp15 => ?_)
  obtain ⟨rfl, rfl⟩ := hp15
  refine gz_iconst hC (1) dX6_judge_18 (by decide) ?_
  refine gz_iadd hC dX6_judge_19 ?_
  refine gz_istore hC dX6_judge_20 (by decide) ?_
  refine gz_aload_n hC dX6_judge_22 rfl ?_
  refine gz_aload_n hC dX6_judge_23 rfl ?_
  refine gz_getR (j := 0) hC dX6_judge_24 cf_X6 fl_X6_12 rfl rfl (by decide) ?_
  refine gz_iload_n hC dX6_judge_27 rfl ?_
  refine gz_iload hC dX6_judge_28 rfl ?_
  refine gz_callV3 hC dX6_judge_30 ml_X6_57 rfl rfl (by decide) (by decide) (Nat.le_of_ble_eq_true rfl) (ct_X6_countsFor hJ _ _ 3 lx_cup3 d0 F w hw hO.1 hc0 g (b % F) _ _ hx1 rfl hg (by omega)) (fun v30 M30 hp30 => ?_)
  obtain ⟨rfl, rfl⟩ := hp30
  refine gz_aload_n hC dX6_judge_33 rfl ?_
  refine gz_aload_n hC dX6_judge_34 rfl ?_
  refine gz_getR (j := 1) hC dX6_judge_35 cf_X6 fl_X6_18 rfl rfl (by decide) ?_
  refine gz_iload_n hC dX6_judge_38 rfl ?_
  refine gz_iload hC dX6_judge_39 rfl ?_
  refine gz_callV3 hC dX6_judge_41 ml_X6_57 rfl rfl (by decide) (by decide) (Nat.le_of_ble_eq_true rfl) (ct_X6_countsFor hJ _ _ 7 lx_cup7 d1 F w hw hO.2.1 hc1 h (b % F) _ _ hx2 rfl hh (by omega)) (fun v41 M41 hp41 => ?_)
  obtain ⟨rfl, rfl⟩ := hp41
  refine gz_iadd hC dX6_judge_44 ?_
  refine gz_istore hC dX6_judge_45 (by decide) ?_
  refine gz_aload_n hC dX6_judge_47 rfl ?_
  refine gz_getR (j := 2) hC dX6_judge_48 cf_X6 fl_X6_21 rfl rfl (by decide) ?_
  refine gz_iload_n hC dX6_judge_51 rfl ?_
  refine gz_iload_n hC dX6_judge_52 rfl ?_
  refine gz_iload_n hC dX6_judge_53 rfl ?_
  refine gz_callS3 hC dX6_judge_54 ml_X6_61 (by decide) (by decide) (Nat.le_of_ble_eq_true rfl) (ct_X6_spotOf hJ _ _ g h b _ _ _ hx1 hx2 hx3) (fun v54 M54 hp54 => ?_)
  obtain ⟨rfl, rfl⟩ := hp54
  refine gz_iload hC dX6_judge_57 rfl ?_
  refine gz_iload hC dX6_judge_59 rfl ?_
  rw [nI_add, nI_1]
  refine gz_icmp_lt hC 68 dX6_judge_61 (by decide) (fun c61 => ?_) (fun c61 => ?_)
  · refine gz_iconst hC (0) dX6_judge_68 (by decide) ?_
    refine gz_callSN3 hC dX6_judge_69 ml_X6_65 (by decide) (by decide) (Nat.le_of_ble_eq_true rfl) (ct_X7_put hJ _ _ 2 128 ((g * 4 + h) * 8 + b) rfl (by omega) _ _ rfl (by omega)) (fun v69 M69 hp69 => ?_)
    obtain ⟨rfl, rfl⟩ := hp69
    exact gz_vret hC dX6_judge_72 ⟨rfl, by first | (rw [show tb_t d0 d1 F w g h b = false from decide_eq_false (fun q => nI_nlt q (by omega) c61)]; rfl) | (rw [show tb_t d0 d1 F w g h b = true from decide_eq_true (by rcases Nat.lt_or_ge (tb_cf d0 F w g (b % F) + tb_cf d1 F w h (b % F)) (b / F + 1) with q | q; exact absurd (nI_lt q (by omega)) c61; exact q)]; rfl)⟩
  · refine gz_iconst hC (1) dX6_judge_64 (by decide) ?_
    refine gz_goto hC 69 dX6_judge_65 (by decide) ?_
    refine gz_callSN3 hC dX6_judge_69 ml_X6_65 (by decide) (by decide) (Nat.le_of_ble_eq_true rfl) (ct_X7_put hJ _ _ 2 128 ((g * 4 + h) * 8 + b) rfl (by omega) _ _ rfl (by omega)) (fun v69 M69 hp69 => ?_)
    obtain ⟨rfl, rfl⟩ := hp69
    exact gz_vret hC dX6_judge_72 ⟨rfl, by first | (rw [show tb_t d0 d1 F w g h b = false from decide_eq_false (fun q => nI_nlt q (by omega) c61)]; rfl) | (rw [show tb_t d0 d1 F w g h b = true from decide_eq_true (by rcases Nat.lt_or_ge (tb_cf d0 F w g (b % F) + tb_cf d1 F w h (b % F)) (b / F + 1) with q | q; exact absurd (nI_lt q (by omega)) c61; exact q)]; rfl)⟩
set_option maxHeartbeats 4000000 in
set_option maxRecDepth 100000 in
theorem ct_X6_isTrue (hJ : gz_inj ad lx_lay) (I : Nat → Nat → Int32) (G : Nat → Nat → UInt64) (d0 d1 F : Nat) (w : Bool) (hO : cf_ok d0 d1 F) (hX : xi_tab d0 d1 F w I) (g h b : Nat) (x1 x2 x3 : Int32) (hx1 : x1 = nI g) (hx2 : x2 = nI h) (hx3 : x3 = nI b) (hg : g < tb_n d0 F) (hh : h < tb_n d1 F) (hb : b < (d0 + d1) * F) : gz_Ct l D ad cy lx_lay yX6_isTrue cX6_isTrue 4 (some .boolean) 1 [.ref (ad 1), .int x1, .int x2, .int x3] (I, G) (fun v M1 => v = some (.int (gz_b (tb_t d0 d1 F w g h b))) ∧ M1 = (I, G)) := by
  obtain ⟨T1, T2, T3, T4, T5, T6, T7, T8, T9⟩ := tb_facts hO.1
  obtain ⟨U1, U2, U3, U4, U5, U6, U7, U8, U9⟩ := tb_facts hO.2.1
  have hO3 := hO.2.2
  refine gz_met (by decide +kernel) hJ (Nat.le_of_ble_eq_true rfl) ?_
  intro p e s m args below meth c hC
  refine gz_aload_n hC dX6_isTrue_0 rfl ?_
  refine gz_getR (j := 2) hC dX6_isTrue_1 cf_X6 fl_X6_21 rfl rfl (by decide) ?_
  refine gz_iload_n hC dX6_isTrue_4 rfl ?_
  refine gz_iload_n hC dX6_isTrue_5 rfl ?_
  refine gz_iload_n hC dX6_isTrue_6 rfl ?_
  refine gz_callS3 hC dX6_isTrue_7 ml_X6_61 (by decide) (by decide) (Nat.le_of_ble_eq_true rfl) (ct_X6_spotOf hJ _ _ g h b _ _ _ hx1 hx2 hx3) (fun v7 M7 hp7 => ?_)
  obtain ⟨rfl, rfl⟩ := hp7
  refine gz_callSN2 hC dX6_isTrue_10 ml_X6_72 (by decide) (by decide) (Nat.le_of_ble_eq_true rfl) (ct_X7_at hJ _ _ 2 128 ((g * 4 + h) * 8 + b) rfl (by omega) _ rfl (by omega)) (fun v10 M10 hp10 => ?_)
  obtain ⟨rfl, rfl⟩ := hp10
  rw [hX.2.2.2.2.2 g hg h hh b hb]
  refine gz_iconst hC (1) dX6_isTrue_13 (by decide) ?_
  refine gz_icmp_ne hC 21 dX6_isTrue_14 (by decide) (fun c14 => ?_) (fun c14 => ?_)
  · refine gz_iconst hC (0) dX6_isTrue_21 (by decide) ?_
    exact gz_zret rfl hC dX6_isTrue_22 ⟨gz_v (by first | exact c14.symm | (cases hq : tb_t d0 d1 F w g h b; rfl; exact absurd (by rw [hq]; rfl) c14)), rfl⟩
  · refine gz_iconst hC (1) dX6_isTrue_17 (by decide) ?_
    refine gz_goto hC 22 dX6_isTrue_18 (by decide) ?_
    exact gz_zret rfl hC dX6_isTrue_22 ⟨gz_v (by first | exact c14.symm | (cases hq : tb_t d0 d1 F w g h b; rfl; exact absurd (by rw [hq]; rfl) c14)), rfl⟩
set_option maxHeartbeats 4000000 in
set_option maxRecDepth 100000 in
theorem ct_X6_isTrueFor (hJ : gz_inj ad lx_lay) (I : Nat → Nat → Int32) (G : Nat → Nat → UInt64) (d0 d1 F : Nat) (w : Bool) (hO : cf_ok d0 d1 F) (hX : xi_tab d0 d1 F w I) (pl own oth b : Nat) (x0 x1 x2 x3 : Int32) (hp : pl < 2) (hx0 : x0 = nI pl) (hx1 : x1 = nI own) (hx2 : x2 = nI oth) (hx3 : x3 = nI b) (ho : own < tb_n (tb_d d0 d1 pl) F) (hh : oth < tb_n (tb_d d0 d1 (1 - pl)) F) (hb : b < (d0 + d1) * F) : gz_Ct l D ad cy lx_lay yX6_isTrueFor cX6_isTrueFor 5 (some .boolean) 2 [.ref (ad 1), .int x0, .int x1, .int x2, .int x3] (I, G) (fun v M1 => v = some (.int (gz_b (tb_tf d0 d1 F w pl own oth b))) ∧ M1 = (I, G)) := by
  refine gz_met (by decide +kernel) hJ (Nat.le_of_ble_eq_true rfl) ?_
  intro p e s m args below meth c hC
  refine gz_iload_n hC dX6_isTrueFor_0 rfl ?_
  refine gz_if_ne hC 15 dX6_isTrueFor_1 (by decide) (fun c1 => ?_) (fun c1 => ?_)
  · have hpl : pl = 1 := by rcases (show pl = 0 ∨ pl = 1 by omega) with q | q; exact absurd (by rw [hx0, q]; rfl) c1; exact q
    subst hpl
    refine gz_aload_n hC dX6_isTrueFor_15 rfl ?_
    refine gz_iload_n hC dX6_isTrueFor_16 rfl ?_
    refine gz_iload_n hC dX6_isTrueFor_17 rfl ?_
    refine gz_iload hC dX6_isTrueFor_18 rfl ?_
    refine gz_callV3 hC dX6_isTrueFor_20 ml_X6_76 rfl rfl (by decide) (by decide) (Nat.le_of_ble_eq_true rfl) (ct_X6_isTrue hJ _ _ d0 d1 F w hO hX oth own b _ _ _ hx2 hx1 hx3 hh ho hb) (fun v20 M20 hp20 => ?_)
    obtain ⟨rfl, rfl⟩ := hp20
    exact gz_zret (gz_bn _) hC dX6_isTrueFor_23 ⟨rfl, rfl⟩
  · have hpl : pl = 0 := by rcases (show pl = 0 ∨ pl = 1 by omega) with q | q; exact q; exact absurd c1 (by rw [hx0, q]; decide)
    subst hpl
    refine gz_aload_n hC dX6_isTrueFor_4 rfl ?_
    refine gz_iload_n hC dX6_isTrueFor_5 rfl ?_
    refine gz_iload_n hC dX6_isTrueFor_6 rfl ?_
    refine gz_iload hC dX6_isTrueFor_7 rfl ?_
    refine gz_callV3 hC dX6_isTrueFor_9 ml_X6_76 rfl rfl (by decide) (by decide) (Nat.le_of_ble_eq_true rfl) (ct_X6_isTrue hJ _ _ d0 d1 F w hO hX own oth b _ _ _ hx1 hx2 hx3 ho hh hb) (fun v9 M9 hp9 => ?_)
    obtain ⟨rfl, rfl⟩ := hp9
    refine gz_goto hC 23 dX6_isTrueFor_12 (by decide) ?_
    exact gz_zret (gz_bn _) hC dX6_isTrueFor_23 ⟨rfl, rfl⟩
set_option maxHeartbeats 4000000 in
set_option maxRecDepth 100000 in
theorem ct_X6_waysToHold (hJ : gz_inj ad lx_lay) (I : Nat → Nat → Int32) (G : Nat → Nat → UInt64) (d0 d1 F : Nat) (w : Bool) (hO : cf_ok d0 d1 F) (hX : xi_tab d0 d1 F w I) (pl h b : Nat) (x0 x1 x2 : Int32) (hp : pl < 2) (hx0 : x0 = nI pl) (hx1 : x1 = nI h) (hx2 : x2 = nI b) (hh : h < tb_n (tb_d d0 d1 pl) F) (hb : b < (d0 + d1) * F) : gz_Ct l D ad cy lx_lay yX6_waysToHold cX6_waysToHold 7 (some .int) 3 [.ref (ad 1), .int x0, .int x1, .int x2] (I, G) (fun v M1 => v = some (.int (nI (tb_wh d0 d1 F w pl h b (tb_n (tb_d d0 d1 (1 - pl)) F)))) ∧ M1 = (I, G)) := by
  have hK1 := lx_cupP (show 1 - pl < 2 by omega)
  have hC1 := xi_cupP hX (show 1 - pl < 2 by omega)
  obtain ⟨T1, T2, T3, T4, T5, T6, T7, T8, T9⟩ := tb_facts (cf_okP hO (show 1 - pl < 2 by omega))
  refine gz_met (by decide +kernel) hJ (Nat.le_of_ble_eq_true rfl) ?_
  intro p e s m args below meth c hC
  refine gz_aload_n hC dX6_waysToHold_0 rfl ?_
  refine gz_iconst hC (1) dX6_waysToHold_1 (by decide) ?_
  refine gz_iload_n hC dX6_waysToHold_2 rfl ?_
  refine gz_isub hC dX6_waysToHold_3 ?_
  refine gz_callV1 hC dX6_waysToHold_4 ml_X6_80 rfl rfl (by decide) (by decide) (Nat.le_of_ble_eq_true rfl) (ct_X6_cup hJ _ _ _ (3 + 4 * (1 - pl)) (by rw [hx0]; match pl, hp with | 0, _ => exact Or.inr ⟨by decide, rfl⟩ | 1, _ => exact Or.inl ⟨rfl, rfl⟩)) (fun v4 M4 hp4 => ?_)
  obtain ⟨rfl, rfl⟩ := hp4
  refine gz_astore hC dX6_waysToHold_7 (by decide) ?_
  refine gz_iconst hC (0) dX6_waysToHold_9 (by decide) ?_
  refine gz_istore hC dX6_waysToHold_10 (by decide) ?_
  refine gz_iconst hC (0) dX6_waysToHold_12 (by decide) ?_
  refine gz_istore hC dX6_waysToHold_13 (by decide) ?_
  have lp : ∀ (n i : Nat) (y z : Int32) (hi : i + n = tb_n (tb_d d0 d1 (1 - pl)) F) (hy : y = nI (tb_wh d0 d1 F w pl h b i)) (hz : z = nI i), gz_W p l e (gz_rm 3) s m args below meth c D ad cy lx_lay 7 (MQ below (gz_Q D ad cy lx_lay (fun v M1 => v = some (.int (nI (tb_wh d0 d1 F w pl h b (tb_n (tb_d d0 d1 (1 - pl)) F)))) ∧ M1 = (I, G))) args s 0 0 (gz_A ad lx_lay)) (I, G) 15 [(0, .ref (ad 1)), (1, .int x0), (2, .int x1), (3, .int x2), (4, .ref (ad (3 + 4 * (1 - pl)))), (5, .int y), (6, .int z)] [] := by
    intro n
    induction n with
    | zero =>
      intro i y z hi hy hz
      refine gz_iload hC dX6_waysToHold_15 rfl ?_
      refine gz_aload hC dX6_waysToHold_17 rfl ?_
      refine gz_getIN (j := 5) hC dX6_waysToHold_19 cf_X1 fl_X6_43 hK1.1 rfl (by decide) ?_
      refine gz_icmp_ge hC 55 dX6_waysToHold_22 (by decide) (fun c22 => ?_) (fun c22 => ?_)
      · refine gz_iload hC dX6_waysToHold_55 rfl ?_
        exact gz_iret hC dX6_waysToHold_57 ⟨gz_v (by rw [hy, show i = tb_n (tb_d d0 d1 (1 - pl)) F by omega]), rfl⟩
      · exact absurd (gz_ile hC1.2.2.1 hz (by omega) (by omega)) c22
    | succ n ih =>
      intro i y z hi hy hz
      refine gz_iload hC dX6_waysToHold_15 rfl ?_
      refine gz_aload hC dX6_waysToHold_17 rfl ?_
      refine gz_getIN (j := 5) hC dX6_waysToHold_19 cf_X1 fl_X6_43 hK1.1 rfl (by decide) ?_
      refine gz_icmp_ge hC 55 dX6_waysToHold_22 (by decide) (fun c22 => ?_) (fun c22 => ?_)
      · exact absurd c22 (gz_inle hC1.2.2.1 hz (by omega) (by omega))
      · refine gz_aload_n hC dX6_waysToHold_25 rfl ?_
        refine gz_iload_n hC dX6_waysToHold_26 rfl ?_
        refine gz_iload_n hC dX6_waysToHold_27 rfl ?_
        refine gz_iload hC dX6_waysToHold_28 rfl ?_
        refine gz_iload_n hC dX6_waysToHold_30 rfl ?_
        refine gz_callV4 hC dX6_waysToHold_31 ml_X6_84 rfl rfl (by decide) (by decide) (Nat.le_of_ble_eq_true rfl) (ct_X6_isTrueFor hJ _ _ d0 d1 F w hO hX pl h i b _ _ _ _ hp hx0 hx1 hz hx2 hh (by omega) hb) (fun v31 M31 hp31 => ?_)
        obtain ⟨rfl, rfl⟩ := hp31
        refine gz_if_eq hC 49 dX6_waysToHold_34 (by decide) (fun c34 => ?_) (fun c34 => ?_)
        · refine gz_iinc hC (1) dX6_waysToHold_49 rfl (by decide) (by decide) ?_
          refine gz_goto hC 15 dX6_waysToHold_52 (by decide) ?_
          first
            | (have hb0 := gz_b1 c34
               refine gz_lw [(0, .ref (ad 1)), (1, .int x0), (2, .int x1), (3, .int x2), (4, .ref (ad (3 + 4 * (1 - pl)))), (5, .int (y + nI (tb_w (tb_d d0 d1 (1 - pl)) F i))), (6, .int (z + 1))] ⟨rfl, rfl, rfl, rfl, rfl, rfl, rfl, trivial⟩ ?_
               exact ih (i + 1) _ _ (by omega) (by rw [hy, nI_add]; show _ = nI (tb_wh d0 d1 F w pl h b i + cond (tb_tf d0 d1 F w pl h i b) (tb_w (tb_d d0 d1 (1 - pl)) F i) 0); rw [hb0]; rfl) (gz_i1 hz)
               done)
            | (have hb0 := gz_b0 c34
               refine gz_lw [(0, .ref (ad 1)), (1, .int x0), (2, .int x1), (3, .int x2), (4, .ref (ad (3 + 4 * (1 - pl)))), (5, .int y), (6, .int (z + 1))] ⟨rfl, rfl, rfl, rfl, rfl, rfl, rfl, trivial⟩ ?_
               exact ih (i + 1) _ _ (by omega) (by rw [hy]; show _ = nI (tb_wh d0 d1 F w pl h b i + cond (tb_tf d0 d1 F w pl h i b) (tb_w (tb_d d0 d1 (1 - pl)) F i) 0); rw [hb0]; rfl) (gz_i1 hz)
               done)
        · refine gz_iload hC dX6_waysToHold_37 rfl ?_
          refine gz_aload hC dX6_waysToHold_39 rfl ?_
          refine gz_iload hC dX6_waysToHold_41 rfl ?_
          refine gz_callV1 hC dX6_waysToHold_43 ml_X6_88 hK1.1 rfl (by decide) (by decide) (Nat.le_of_ble_eq_true rfl) (ct_X1_waysOf hJ _ _ _ hK1 i _ hz (by omega)) (fun v43 M43 hp43 => ?_)
          obtain ⟨rfl, rfl⟩ := hp43
          rw [hC1.2.2.2.2 i (by omega)]
          refine gz_iadd hC dX6_waysToHold_46 ?_
          refine gz_istore hC dX6_waysToHold_47 (by decide) ?_
          refine gz_iinc hC (1) dX6_waysToHold_49 rfl (by decide) (by decide) ?_
          refine gz_goto hC 15 dX6_waysToHold_52 (by decide) ?_
          first
            | (have hb0 := gz_b1 c34
               refine gz_lw [(0, .ref (ad 1)), (1, .int x0), (2, .int x1), (3, .int x2), (4, .ref (ad (3 + 4 * (1 - pl)))), (5, .int (y + nI (tb_w (tb_d d0 d1 (1 - pl)) F i))), (6, .int (z + 1))] ⟨rfl, rfl, rfl, rfl, rfl, rfl, rfl, trivial⟩ ?_
               exact ih (i + 1) _ _ (by omega) (by rw [hy, nI_add]; show _ = nI (tb_wh d0 d1 F w pl h b i + cond (tb_tf d0 d1 F w pl h i b) (tb_w (tb_d d0 d1 (1 - pl)) F i) 0); rw [hb0]; rfl) (gz_i1 hz)
               done)
            | (have hb0 := gz_b0 c34
               refine gz_lw [(0, .ref (ad 1)), (1, .int x0), (2, .int x1), (3, .int x2), (4, .ref (ad (3 + 4 * (1 - pl)))), (5, .int y), (6, .int (z + 1))] ⟨rfl, rfl, rfl, rfl, rfl, rfl, rfl, trivial⟩ ?_
               exact ih (i + 1) _ _ (by omega) (by rw [hy]; show _ = nI (tb_wh d0 d1 F w pl h b i + cond (tb_tf d0 d1 F w pl h i b) (tb_w (tb_d d0 d1 (1 - pl)) F i) 0); rw [hb0]; rfl) (gz_i1 hz)
               done)
  exact gz_lw [(0, .ref (ad 1)), (1, .int x0), (2, .int x1), (3, .int x2), (4, .ref (ad (3 + 4 * (1 - pl)))), (5, .int 0), (6, .int 0)] ⟨rfl, rfl, rfl, rfl, rfl, rfl, rfl, trivial⟩ (lp (tb_n (tb_d d0 d1 (1 - pl)) F) 0 0 0 (by omega) rfl rfl)
  -- places not laid: [17, 19, 22, 25, 26, 27, 28, 30, 31, 34, 37, 39, 41, 43, 46, 47, 49, 52, 55, 57]
set_option maxHeartbeats 4000000 in
set_option maxRecDepth 100000 in
theorem ct_X6_meanOf (hJ : gz_inj ad lx_lay) (I : Nat → Nat → Int32) (G : Nat → Nat → UInt64) (d0 d1 F : Nat) (w : Bool) (hO : cf_ok d0 d1 F) (hX : xi_tab d0 d1 F w I) (sm : UInt64) (hn : vf_n64 (FP.ddiv sm (FP.i2d (nI (F ^ d0 * F ^ d1))))) : gz_Ct l D ad cy lx_lay yX6_meanOf cX6_meanOf 5 (some .double) 1 [.ref (ad 1), .double sm] (I, G) (fun v M1 => v = some (.double (FP.ddiv sm (FP.i2d (nI (F ^ d0 * F ^ d1))))) ∧ M1 = (I, G)) := by
  obtain ⟨T1, T2, T3, T4, T5, T6, T7, T8, T9⟩ := tb_facts hO.1
  obtain ⟨U1, U2, U3, U4, U5, U6, U7, U8, U9⟩ := tb_facts hO.2.1
  have hO3 := hO.2.2
  refine gz_met (by decide +kernel) hJ (Nat.le_of_ble_eq_true rfl) ?_
  intro p e s m args below meth c hC
  refine gz_aload_n hC dX6_meanOf_0 rfl ?_
  refine gz_getR (j := 0) hC dX6_meanOf_1 cf_X6 fl_X6_12 rfl rfl (by decide) ?_
  refine gz_callV0 hC dX6_meanOf_4 ml_X6_92 rfl rfl (by decide) (by decide) (Nat.le_of_ble_eq_true rfl) (ct_X1_allWays hJ _ _ 3 lx_cup3 d0 F hX.2.2.2.1.1 hX.2.2.2.1.2.1 (by omega)) (fun v4 M4 hp4 => ?_)
  obtain ⟨rfl, rfl⟩ := hp4
  refine gz_aload_n hC dX6_meanOf_7 rfl ?_
  refine gz_getR (j := 1) hC dX6_meanOf_8 cf_X6 fl_X6_18 rfl rfl (by decide) ?_
  refine gz_callV0 hC dX6_meanOf_11 ml_X6_92 rfl rfl (by decide) (by decide) (Nat.le_of_ble_eq_true rfl) (ct_X1_allWays hJ _ _ 7 lx_cup7 d1 F hX.2.2.2.2.1.1 hX.2.2.2.2.1.2.1 (by omega)) (fun v11 M11 hp11 => ?_)
  obtain ⟨rfl, rfl⟩ := hp11
  refine gz_imul hC dX6_meanOf_14 ?_
  rw [pk_mul]
  refine gz_i2d hC dX6_meanOf_15 ?_
  refine gz_dstore_n hC dX6_meanOf_16 (by decide) ?_
  refine gz_dload_n hC dX6_meanOf_17 rfl ?_
  refine gz_dconst0 hC dX6_meanOf_18 ?_
  refine gz_dcmp hC dX6_meanOf_19 ?_
  rw [cf_pow hO]
  refine gz_if_le hC 29 dX6_meanOf_20 (by decide) (fun c20 => ?_) (fun c20 => ?_)
  · exact absurd c20 (by decide)
  · refine gz_dload_n hC dX6_meanOf_23 rfl ?_
    refine gz_dload_n hC dX6_meanOf_24 rfl ?_
    refine gz_ddiv hC dX6_meanOf_25 hn ?_
    refine gz_goto hC 30 dX6_meanOf_26 (by decide) ?_
    exact gz_dret hC dX6_meanOf_30 ⟨rfl, rfl⟩
  -- places not laid: [29]
end CT
