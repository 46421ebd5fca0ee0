/-! the model: what is asked -/
theorem xm_c_fr {d0 d1 F : Nat} {w : Bool} {I J : Nat → Nat → Int32} (h : xm_c d0 d1 F w I) (hf : ∀ j, j < 4 → J 0 j = I 0 j) : xm_c d0 d1 F w J := ⟨by rw [hf 0 (by decide)]; exact h.1, by rw [hf 1 (by decide)]; exact h.2.1, by rw [hf 2 (by decide)]; exact h.2.2.1, by rw [hf 3 (by decide)]; exact h.2.2.2⟩
theorem xm_tab_fr {d0 d1 F : Nat} {w : Bool} {I J : Nat → Nat → Int32} (h : xm_tab d0 d1 F w I) (h0 : ∀ j, j < 4 → J 0 j = I 0 j) (h1 : J 1 = I 1) (h2 : J 2 = I 2) (h3 : J 3 = I 3) : xm_tab d0 d1 F w J := by
  obtain ⟨a, b, c⟩ := h
  refine ⟨xm_c_fr a h0, ?_, ?_⟩
  · unfold xm_h; rw [h1, h2, h3]; exact b
  · unfold xm_h; rw [h1, h2, h3]; exact c
theorem tb_cf_le (d F : Nat) (w : Bool) (h f : Nat) : tb_cf d F w h f ≤ 2 * d := by
  have h1 := tb_cnt_le (tb_rw d F h) f d
  have h2 := tb_cnt_le (tb_rw d F h) 0 d
  unfold tb_cf
  cases (w && decide (0 < f)) <;> simp only [cond_true, cond_false] <;> omega
theorem xm_ab {d0 d1 F : Nat} (w : Bool) (pl hh bb : Nat) : tb_ab d0 d1 F w pl hh bb = tb_wh d0 d1 F w pl hh bb (tb_n (tb_d d0 d1 (1 - pl)) F) := rfl
section CT
variable {l : Launch} {D : va_G} {ad : Nat → Nat} {cy : Nat → ClassId}
set_option maxHeartbeats 4000000 in
set_option maxRecDepth 100000 in
theorem ct_X8_lay (hJ : gz_inj ad lm_lay) (I : Nat → Nat → Int32) (G : Nat → Nat → UInt64) (d0 d1 F : Nat) (w : Bool) (hX : xm_c d0 d1 F w I) (hO : cf_ok d0 d1 F) : gz_Ct l D ad cy lm_lay yX8_lay cX8_lay 2 none 2 [.ref (ad 0)] (I, G) (fun v M1 => ∃ I1, v = none ∧ M1 = (I1, G) ∧ xm_tab d0 d1 F w I1 ∧ (∀ i, i < 3888 → I1 4 i = 1) ∧ (∀ i, 3888 ≤ i → I1 4 i = I 4 i) ∧ I1 0 8 = 0 ∧ ∀ j, j ≠ 8 → I1 0 j = I 0 j) := by
  refine gz_met (by decide +kernel) hJ (Nat.le_of_ble_eq_true rfl) ?_
  intro p e s m args below meth c hC
  refine gz_aload_n hC dX8_lay_0 rfl ?_
  refine gz_iconst hC (0) dX8_lay_1 (by decide) ?_
  refine gz_callV1 hC dX8_lay_2 ml_X8_74 rfl rfl (by decide) (by decide) (Nat.le_of_ble_eq_true rfl) (ct_X8_layHands hJ _ _ d0 d1 F w hX 0 d0 (by decide) rfl hO.1 _ rfl) (fun v2 M2 hp2 => ?_)
  obtain ⟨J1, rfl, rfl, k1, k2⟩ := hp2
  have hc1 : xm_c d0 d1 F w J1 := xm_c_fr hX (fun j _ => k2 0 j (by unfold xm_k; omega))
  refine gz_aload_n hC dX8_lay_5 rfl ?_
  refine gz_iconst hC (1) dX8_lay_6 (by decide) ?_
  refine gz_callV1 hC dX8_lay_7 ml_X8_74 rfl rfl (by decide) (by decide) (Nat.le_of_ble_eq_true rfl) (ct_X8_layHands hJ _ _ d0 d1 F w hc1 1 d1 (by decide) rfl hO.2.1 _ rfl) (fun v7 M7 hp7 => ?_)
  obtain ⟨J2, rfl, rfl, k3, k4⟩ := hp7
  have hX2 : xm_tab d0 d1 F w J2 := ⟨xm_c_fr hc1 (fun j _ => k4 0 j (by unfold xm_k; omega)), xm_h_fr k1 hO.1 (fun o j h => k4 o j (by unfold xm_k; omega)), k3⟩
  refine gz_iconst hC (0) dX8_lay_10 (by decide) ?_
  refine gz_istore_n hC dX8_lay_11 (by decide) ?_
  have lp : ∀ (n i : Nat) (J : Nat → Nat → Int32) (x1 : Int32) (hi : i + n = 3888) (hx1 : x1 = nI i) (h1 : ∀ q, q < i → J 4 q = 1) (h2 : ∀ q, i ≤ q → J 4 q = I 4 q) (h3 : ∀ o, o ≠ 4 → J o = J2 o), gz_W p l e (gz_rm 2) s m args below meth c D ad cy lm_lay 2 (MQ below (gz_Q D ad cy lm_lay (fun v M1 => ∃ I1, v = none ∧ M1 = (I1, G) ∧ xm_tab d0 d1 F w I1 ∧ (∀ i, i < 3888 → I1 4 i = 1) ∧ (∀ i, 3888 ≤ i → I1 4 i = I 4 i) ∧ I1 0 8 = 0 ∧ ∀ j, j ≠ 8 → I1 0 j = I 0 j)) args s 0 0 (gz_A ad lm_lay)) (J, G) 12 [(0, .ref (ad 0)), (1, .int x1)] [] := by
    intro n
    induction n with
    | zero =>
      intro i J x1 hi hx1 h1 h2 h3
      refine gz_iload_n hC dX8_lay_12 rfl ?_
      refine gz_sipush hC (3888) dX8_lay_13 (by decide) ?_
      refine gz_icmp_ge hC 32 dX8_lay_16 (by decide) (fun c16 => ?_) (fun c16 => ?_)
      · refine gz_aload_n hC dX8_lay_32 rfl ?_
        refine gz_iconst hC (0) dX8_lay_33 (by decide) ?_
        refine gz_put (j := 8) hC dX8_lay_34 cf_X8 fl_X8_78 rfl rfl (by decide) rfl rfl rfl ?_
        exact gz_vret hC dX8_lay_37 ⟨_, rfl, rfl, xm_tab_fr hX2 (fun j hj => by rw [gz_up_oth (by omega), h3 0 (by decide)]) (by rw [gz_up_ne (by decide), h3 1 (by decide)]) (by rw [gz_up_ne (by decide), h3 2 (by decide)]) (by rw [gz_up_ne (by decide), h3 3 (by decide)]), fun q hq => by rw [gz_up_at (by decide)]; exact h1 q (by omega), fun q hq => by rw [gz_up_at (by decide)]; exact h2 q (by omega), gz_up_self, fun j hj => by rw [gz_up_oth hj, h3 0 (by decide), k4 0 j (by unfold xm_k; omega), k2 0 j (by unfold xm_k; omega)]⟩
      · exact absurd (gz_ile (show (3888 : Int32) = nI 3888 from rfl) hx1 (by omega) (by omega)) c16
    | succ n ih =>
      intro i J x1 hi hx1 h1 h2 h3
      refine gz_iload_n hC dX8_lay_12 rfl ?_
      refine gz_sipush hC (3888) dX8_lay_13 (by decide) ?_
      refine gz_icmp_ge hC 32 dX8_lay_16 (by decide) (fun c16 => ?_) (fun c16 => ?_)
      · exact absurd c16 (gz_inle (show (3888 : Int32) = nI 3888 from rfl) hx1 (by omega) (by omega))
      · refine gz_aload_n hC dX8_lay_19 rfl ?_
        refine gz_getR (j := 7) hC dX8_lay_20 cf_X8 fl_X8_29 rfl rfl (by decide) ?_
        refine gz_iload_n hC dX8_lay_23 rfl ?_
        refine gz_iconst hC (1) dX8_lay_24 (by decide) ?_
        refine gz_iast hC dX8_lay_25 rfl (by rw [hx1]; exact vp_in_nI (by omega) (by decide)) ?_
        rw [show x1.toNatClampNeg = i by rw [hx1, nI_clamp (by omega)]]
        refine gz_iinc hC (1) dX8_lay_26 rfl (by decide) (by decide) ?_
        refine gz_goto hC 12 dX8_lay_29 (by decide) ?_
        refine gz_lw [(0, .ref (ad 0)), (1, .int (x1 + 1))] ⟨rfl, rfl, trivial⟩ ?_
        exact ih (i + 1) _ _ (by omega) (gz_i1 hx1) (fun q hq => by by_cases e : q = i; (subst e; exact gz_up_self); rw [gz_up_oth e]; exact h1 q (by omega)) (fun q hq => by rw [gz_up_oth (by omega)]; exact h2 q (by omega)) (fun o ho => (gz_up_ne ho).trans (h3 o ho))
  exact gz_lw [(0, .ref (ad 0)), (1, .int 0)] ⟨rfl, rfl, trivial⟩ (lp 3888 0 J2 0 (by omega) rfl (fun q h => absurd h (Nat.not_lt_zero q)) (fun q _ => by rw [k4 4 q (by unfold xm_k; omega), k2 4 q (by unfold xm_k; omega)]) (fun _ _ => rfl))
  -- places not laid: [13, 16, 19, 20, 23, 24, 25, 26, 29, 32, 33, 34, 37]
set_option maxHeartbeats 4000000 in
set_option maxRecDepth 100000 in
theorem ct_X8_cups (hJ : gz_inj ad lm_lay) (I : Nat → Nat → Int32) (G : Nat → Nat → UInt64) (a b f x : Int32) (w2 : Bool) (hx : x = gz_b w2) : gz_Ct l D ad cy lm_lay yX8_cups cX8_cups 5 (some .int) 3 [.ref (ad 0), .int a, .int b, .int f, .int x] (I, G) (fun v M1 => (sp_cok a b f = false ∧ v = some (.int (-2)) ∧ M1 = (I, G)) ∨ (sp_cok a b f = true ∧ ∃ I1, v = some (.int (nI ((a.toNatClampNeg + b.toNatClampNeg) * f.toNatClampNeg))) ∧ M1 = (I1, G) ∧ xm_tab a.toNatClampNeg b.toNatClampNeg f.toNatClampNeg w2 I1 ∧ (∀ i, i < 3888 → I1 4 i = 1) ∧ (∀ i, 3888 ≤ i → I1 4 i = I 4 i) ∧ I1 0 8 = 0 ∧ ∀ j, 4 ≤ j → j ≠ 8 → I1 0 j = I 0 j)) := by
  refine gz_met (by decide +kernel) hJ (Nat.le_of_ble_eq_true rfl) ?_
  intro p e s m args below meth c hC
  refine gz_iload_n hC dX8_cups_0 rfl ?_
  refine gz_iconst hC (1) dX8_cups_1 (by decide) ?_
  refine gz_iconst hC (3) dX8_cups_2 (by decide) ?_
  refine gz_callS3 hC dX8_cups_3 ml_X8_82 (by decide) (by decide) (Nat.le_of_ble_eq_true rfl) (ct_X8_in hJ _ _ _ _ _) (fun v3 M3 hp3 => ?_)
  obtain ⟨rfl, rfl⟩ := hp3
  refine gz_if_eq hC 37 dX8_cups_6 (by decide) (fun c6 => ?_) (fun c6 => ?_)
  · have q1 := gz_b0 c6
    refine gz_bipush hC (-2) dX8_cups_37 (by decide) ?_
    exact gz_iret hC dX8_cups_39 (Or.inl ⟨by unfold sp_cok; first | (rw [q1, q2, q3, decide_eq_true (gz_le2n c34)]; rfl) | (rw [q1, q2, q3]; rfl) | (rw [q1, q2]; rfl) | (rw [q1]; rfl), rfl, rfl⟩)
  · have q1 := gz_b1 c6
    refine gz_iload_n hC dX8_cups_9 rfl ?_
    refine gz_iconst hC (1) dX8_cups_10 (by decide) ?_
    refine gz_iconst hC (3) dX8_cups_11 (by decide) ?_
    refine gz_callS3 hC dX8_cups_12 ml_X8_82 (by decide) (by decide) (Nat.le_of_ble_eq_true rfl) (ct_X8_in hJ _ _ _ _ _) (fun v12 M12 hp12 => ?_)
    obtain ⟨rfl, rfl⟩ := hp12
    refine gz_if_eq hC 37 dX8_cups_15 (by decide) (fun c15 => ?_) (fun c15 => ?_)
    · have q2 := gz_b0 c15
      refine gz_bipush hC (-2) dX8_cups_37 (by decide) ?_
      exact gz_iret hC dX8_cups_39 (Or.inl ⟨by unfold sp_cok; first | (rw [q1, q2, q3, decide_eq_true (gz_le2n c34)]; rfl) | (rw [q1, q2, q3]; rfl) | (rw [q1, q2]; rfl) | (rw [q1]; rfl), rfl, rfl⟩)
    · have q2 := gz_b1 c15
      refine gz_iload_n hC dX8_cups_18 rfl ?_
      refine gz_iconst hC (2) dX8_cups_19 (by decide) ?_
      refine gz_iconst hC (4) dX8_cups_20 (by decide) ?_
      refine gz_callS3 hC dX8_cups_21 ml_X8_82 (by decide) (by decide) (Nat.le_of_ble_eq_true rfl) (ct_X8_in hJ _ _ _ _ _) (fun v21 M21 hp21 => ?_)
      obtain ⟨rfl, rfl⟩ := hp21
      refine gz_if_eq hC 37 dX8_cups_24 (by decide) (fun c24 => ?_) (fun c24 => ?_)
      · have q3 := gz_b0 c24
        refine gz_bipush hC (-2) dX8_cups_37 (by decide) ?_
        exact gz_iret hC dX8_cups_39 (Or.inl ⟨by unfold sp_cok; first | (rw [q1, q2, q3, decide_eq_true (gz_le2n c34)]; rfl) | (rw [q1, q2, q3]; rfl) | (rw [q1, q2]; rfl) | (rw [q1]; rfl), rfl, rfl⟩)
      · have q3 := gz_b1 c24
        refine gz_iload_n hC dX8_cups_27 rfl ?_
        refine gz_iload_n hC dX8_cups_28 rfl ?_
        refine gz_iadd hC dX8_cups_29 ?_
        refine gz_iload_n hC dX8_cups_30 rfl ?_
        refine gz_imul hC dX8_cups_31 ?_
        refine gz_bipush hC (8) dX8_cups_32 (by decide) ?_
        refine gz_icmp_le hC 40 dX8_cups_34 (by decide) (fun c34 => ?_) (fun c34 => ?_)
        · have q4 : sp_cok a b f = true := by unfold sp_cok; rw [q1, q2, q3, decide_eq_false (gz_ltf c34)]; rfl
          obtain ⟨hO, ha, hb, hf⟩ := sp_cok_t q4
          refine gz_aload_n hC dX8_cups_40 rfl ?_
          refine gz_iload_n hC dX8_cups_41 rfl ?_
          refine gz_put (j := 0) hC dX8_cups_42 cf_X8 fl_X8_7 rfl rfl (by decide) rfl rfl rfl ?_
          refine gz_aload_n hC dX8_cups_45 rfl ?_
          refine gz_iload_n hC dX8_cups_46 rfl ?_
          refine gz_put (j := 1) hC dX8_cups_47 cf_X8 fl_X8_13 rfl rfl (by decide) rfl rfl rfl ?_
          refine gz_aload_n hC dX8_cups_50 rfl ?_
          refine gz_iload_n hC dX8_cups_51 rfl ?_
          refine gz_put (j := 2) hC dX8_cups_52 cf_X8 fl_X8_16 rfl rfl (by decide) rfl rfl rfl ?_
          refine gz_aload_n hC dX8_cups_55 rfl ?_
          refine gz_iload hC dX8_cups_56 rfl ?_
          refine gz_put (j := 3) hC dX8_cups_58 cf_X8 fl_X8_86 rfl rfl (by decide) rfl (by rw [hx]; exact gz_bn w2) (by rw [hx]; exact gz_bf w2) ?_
          refine gz_aload_n hC dX8_cups_61 rfl ?_
          have hc : xm_c a.toNatClampNeg b.toNatClampNeg f.toNatClampNeg w2 (gz_up (gz_up (gz_up (gz_up I 0 0 a) 0 1 b) 0 2 f) 0 3 x) := ⟨by rw [gz_up_oth (by decide), gz_up_oth (by decide), gz_up_oth (by decide), gz_up_self]; exact ha, by rw [gz_up_oth (by decide), gz_up_oth (by decide), gz_up_self]; exact hb, by rw [gz_up_oth (by decide), gz_up_self]; exact hf, by rw [gz_up_self]; exact hx⟩
          refine gz_callV0 hC dX8_cups_62 ml_X8_64 rfl rfl (by decide) (by decide) (Nat.le_of_ble_eq_true rfl) (ct_X8_lay hJ _ _ _ _ _ w2 hc hO) (fun v62 M62 hp62 => ?_)
          obtain ⟨J1, rfl, rfl, k1, k2, k3, k4, k5⟩ := hp62
          refine gz_aload_n hC dX8_cups_65 rfl ?_
          refine gz_callV0 hC dX8_cups_66 ml_X8_89 rfl rfl (by decide) (by decide) (Nat.le_of_ble_eq_true rfl) (ct_X8_most hJ _ _ _ _ _ w2 k1.1) (fun v66 M66 hp66 => ?_)
          obtain ⟨rfl, rfl⟩ := hp66
          exact gz_iret hC dX8_cups_69 (Or.inr ⟨q4, J1, rfl, rfl, k1, k2, fun i hi => by rw [k3 i hi, gz_up_at (by decide), gz_up_at (by decide), gz_up_at (by decide), gz_up_at (by decide)], k4, fun j h1 h2 => by rw [k5 j h2, gz_up_oth (by omega), gz_up_oth (by omega), gz_up_oth (by omega), gz_up_oth (by omega)]⟩)
        · refine gz_bipush hC (-2) dX8_cups_37 (by decide) ?_
          exact gz_iret hC dX8_cups_39 (Or.inl ⟨by unfold sp_cok; first | (rw [q1, q2, q3, decide_eq_true (gz_le2n c34)]; rfl) | (rw [q1, q2, q3]; rfl) | (rw [q1, q2]; rfl) | (rw [q1]; rfl), rfl, rfl⟩)
set_option maxHeartbeats 4000000 in
set_option maxRecDepth 100000 in
theorem ct_X8_isBid (hJ : gz_inj ad lm_lay) (I : Nat → Nat → Int32) (G : Nat → Nat → UInt64) (d0 d1 F : Nat) (w : Bool) (hX : xm_c d0 d1 F w I) (b0 : Int32) : gz_Ct l D ad cy lm_lay yX8_isBid cX8_isBid 2 (some .boolean) 1 [.ref (ad 0), .int b0] (I, G) (fun v M1 => v = some (.int (gz_b (sp_bid d0 d1 F b0))) ∧ M1 = (I, G)) := by
  refine gz_met (by decide +kernel) hJ (Nat.le_of_ble_eq_true rfl) ?_
  intro p e s m args below meth c hC
  refine gz_iload_n hC dX8_isBid_0 rfl ?_
  refine gz_iconst hC (0) dX8_isBid_1 (by decide) ?_
  refine gz_aload_n hC dX8_isBid_2 rfl ?_
  refine gz_callV0 hC dX8_isBid_3 ml_X8_89 rfl rfl (by decide) (by decide) (Nat.le_of_ble_eq_true rfl) (ct_X8_most hJ _ _ d0 d1 F w hX) (fun v3 M3 hp3 => ?_)
  obtain ⟨rfl, rfl⟩ := hp3
  refine gz_iconst hC (1) dX8_isBid_6 (by decide) ?_
  refine gz_isub hC dX8_isBid_7 ?_
  refine gz_callS3 hC dX8_isBid_8 ml_X8_82 (by decide) (by decide) (Nat.le_of_ble_eq_true rfl) (ct_X8_in hJ _ _ _ _ _) (fun v8 M8 hp8 => ?_)
  obtain ⟨rfl, rfl⟩ := hp8
  exact gz_zret (gz_bn _) hC dX8_isBid_11 ⟨rfl, rfl⟩
set_option maxHeartbeats 4000000 in
set_option maxRecDepth 100000 in
theorem ct_X8_isHand (hJ : gz_inj ad lm_lay) (I : Nat → Nat → Int32) (G : Nat → Nat → UInt64) (d0 d1 F : Nat) (w : Bool) (hO : cf_ok d0 d1 F) (hX : xm_tab d0 d1 F w I) (p0 h0 : Int32) : gz_Ct l D ad cy lm_lay yX8_isHand cX8_isHand 3 (some .boolean) 2 [.ref (ad 0), .int p0, .int h0] (I, G) (fun v M1 => v = some (.int (gz_b (sp_hd d0 d1 F p0 h0))) ∧ M1 = (I, G)) := by
  refine gz_met (by decide +kernel) hJ (Nat.le_of_ble_eq_true rfl) ?_
  intro p e s m args below meth c hC
  refine gz_iload_n hC dX8_isHand_0 rfl ?_
  refine gz_callS1 hC dX8_isHand_1 ml_X8_93 (by decide) (by decide) (Nat.le_of_ble_eq_true rfl) (ct_X8_isPlayer hJ _ _ _) (fun v1 M1 hp1 => ?_)
  obtain ⟨rfl, rfl⟩ := hp1
  refine gz_if_eq hC 27 dX8_isHand_4 (by decide) (fun c4 => ?_) (fun c4 => ?_)
  · have q1 := gz_b0 c4
    refine gz_iconst hC (0) dX8_isHand_27 (by decide) ?_
    exact gz_zret rfl hC dX8_isHand_28 ⟨gz_v (by unfold sp_hd; rw [q1]; first | rfl | (rw [show p0.toNatClampNeg = pl by rw [hp0, nI_clamp (by omega)], q2]; rfl)), rfl⟩
  · have q1 := gz_b1 c4
    obtain ⟨pl, hp, hp0⟩ := gz_in_2 q1
    refine gz_iload_n hC dX8_isHand_7 rfl ?_
    refine gz_iconst hC (0) dX8_isHand_8 (by decide) ?_
    refine gz_aload_n hC dX8_isHand_9 rfl ?_
    refine gz_getR (j := 5) hC dX8_isHand_10 cf_X8 fl_X8_23 rfl rfl (by decide) ?_
    refine gz_iload_n hC dX8_isHand_13 rfl ?_
    refine gz_iald hC dX8_isHand_14 rfl (by rw [hp0]; exact vp_in_nI (by omega) (by decide)) ?_
    rw [show p0.toNatClampNeg = pl by rw [hp0, nI_clamp (by omega)]]
    rw [(xm_hP hX hp).1]
    refine gz_iconst hC (1) dX8_isHand_15 (by decide) ?_
    refine gz_isub hC dX8_isHand_16 ?_
    refine gz_callS3 hC dX8_isHand_17 ml_X8_82 (by decide) (by decide) (Nat.le_of_ble_eq_true rfl) (ct_X8_in hJ _ _ _ _ _) (fun v17 M17 hp17 => ?_)
    obtain ⟨rfl, rfl⟩ := hp17
    refine gz_if_eq hC 27 dX8_isHand_20 (by decide) (fun c20 => ?_) (fun c20 => ?_)
    · have q2 := gz_b0 c20
      refine gz_iconst hC (0) dX8_isHand_27 (by decide) ?_
      exact gz_zret rfl hC dX8_isHand_28 ⟨gz_v (by unfold sp_hd; rw [q1]; first | rfl | (rw [show p0.toNatClampNeg = pl by rw [hp0, nI_clamp (by omega)], q2]; rfl)), rfl⟩
    · have q2 := gz_b1 c20
      refine gz_iconst hC (1) dX8_isHand_23 (by decide) ?_
      refine gz_goto hC 28 dX8_isHand_24 (by decide) ?_
      exact gz_zret rfl hC dX8_isHand_28 ⟨gz_v (by unfold sp_hd; rw [q1]; first | rfl | (rw [show p0.toNatClampNeg = pl by rw [hp0, nI_clamp (by omega)], q2]; rfl)), rfl⟩
set_option maxHeartbeats 4000000 in
set_option maxRecDepth 100000 in
theorem ct_X8_hands (hJ : gz_inj ad lm_lay) (I : Nat → Nat → Int32) (G : Nat → Nat → UInt64) (d0 d1 F : Nat) (w : Bool) (hO : cf_ok d0 d1 F) (hX : xm_tab d0 d1 F w I) (p0 : Int32) : gz_Ct l D ad cy lm_lay yX8_hands cX8_hands 2 (some .int) 2 [.ref (ad 0), .int p0] (I, G) (fun v M1 => v = some (.int (sp_hands d0 d1 F p0)) ∧ M1 = (I, G)) := by
  refine gz_met (by decide +kernel) hJ (Nat.le_of_ble_eq_true rfl) ?_
  intro p e s m args below meth c hC
  refine gz_iload_n hC dX8_hands_0 rfl ?_
  refine gz_callS1 hC dX8_hands_1 ml_X8_93 (by decide) (by decide) (Nat.le_of_ble_eq_true rfl) (ct_X8_isPlayer hJ _ _ _) (fun v1 M1 hp1 => ?_)
  obtain ⟨rfl, rfl⟩ := hp1
  refine gz_if_eq hC 16 dX8_hands_4 (by decide) (fun c4 => ?_) (fun c4 => ?_)
  · have q1 := gz_b0 c4
    refine gz_bipush hC (-2) dX8_hands_16 (by decide) ?_
    exact gz_iret hC dX8_hands_18 ⟨gz_v (by unfold sp_hands; rw [q1]; first | rfl | (rw [show p0.toNatClampNeg = pl by rw [hp0, nI_clamp (by omega)], (xm_hP hX hp).1]; rfl)), rfl⟩
  · have q1 := gz_b1 c4
    obtain ⟨pl, hp, hp0⟩ := gz_in_2 q1
    refine gz_aload_n hC dX8_hands_7 rfl ?_
    refine gz_getR (j := 5) hC dX8_hands_8 cf_X8 fl_X8_23 rfl rfl (by decide) ?_
    refine gz_iload_n hC dX8_hands_11 rfl ?_
    refine gz_iald hC dX8_hands_12 rfl (by rw [hp0]; exact vp_in_nI (by omega) (by decide)) ?_
    refine gz_goto hC 18 dX8_hands_13 (by decide) ?_
    exact gz_iret hC dX8_hands_18 ⟨gz_v (by unfold sp_hands; rw [q1]; first | rfl | (rw [show p0.toNatClampNeg = pl by rw [hp0, nI_clamp (by omega)], (xm_hP hX hp).1]; rfl)), rfl⟩
set_option maxHeartbeats 4000000 in
set_option maxRecDepth 100000 in
theorem ct_X8_hand (hJ : gz_inj ad lm_lay) (I : Nat → Nat → Int32) (G : Nat → Nat → UInt64) (d0 d1 F : Nat) (w : Bool) (hO : cf_ok d0 d1 F) (hX : xm_tab d0 d1 F w I) (p0 h0 f0 : Int32) : gz_Ct l D ad cy lm_lay yX8_hand cX8_hand 4 (some .int) 3 [.ref (ad 0), .int p0, .int h0, .int f0] (I, G) (fun v M1 => v = some (.int (sp_hand d0 d1 F p0 h0 f0)) ∧ M1 = (I, G)) := by
  refine gz_met (by decide +kernel) hJ (Nat.le_of_ble_eq_true rfl) ?_
  intro p e s m args below meth c hC
  refine gz_aload_n hC dX8_hand_0 rfl ?_
  refine gz_iload_n hC dX8_hand_1 rfl ?_
  refine gz_iload_n hC dX8_hand_2 rfl ?_
  refine gz_callV2 hC dX8_hand_3 ml_X8_97 rfl rfl (by decide) (by decide) (Nat.le_of_ble_eq_true rfl) (ct_X8_isHand hJ _ _ d0 d1 F w hO hX _ _) (fun v3 M3 hp3 => ?_)
  obtain ⟨rfl, rfl⟩ := hp3
  refine gz_if_eq hC 41 dX8_hand_6 (by decide) (fun c6 => ?_) (fun c6 => ?_)
  · have q1 := gz_b0 c6
    refine gz_bipush hC (-100) dX8_hand_41 (by decide) ?_
    exact gz_iret hC dX8_hand_43 ⟨gz_v (by unfold sp_hand; first | (rw [q1, q2, hp0, hh0, hf0, nI_clamp (by omega), nI_clamp (by omega), nI_clamp (by omega)]; rfl) | (rw [q1, q2]; rfl) | (rw [q1]; rfl)), rfl⟩
  · have q1 := gz_b1 c6
    obtain ⟨pl, hh, hpl1, hk1, hp0, hh0⟩ := sp_hd_t hO q1
    have T1 := tb_facts (cf_okP hO hpl1)
    refine gz_iload_n hC dX8_hand_9 rfl ?_
    refine gz_iconst hC (0) dX8_hand_10 (by decide) ?_
    refine gz_aload_n hC dX8_hand_11 rfl ?_
    refine gz_getI (j := 2) hC dX8_hand_12 cf_X8 fl_X8_16 rfl rfl (by decide) ?_
    rw [hX.1.2.2.1]
    refine gz_iconst hC (1) dX8_hand_15 (by decide) ?_
    refine gz_isub hC dX8_hand_16 ?_
    refine gz_callS3 hC dX8_hand_17 ml_X8_82 (by decide) (by decide) (Nat.le_of_ble_eq_true rfl) (ct_X8_in hJ _ _ _ _ _) (fun v17 M17 hp17 => ?_)
    obtain ⟨rfl, rfl⟩ := hp17
    refine gz_if_eq hC 41 dX8_hand_20 (by decide) (fun c20 => ?_) (fun c20 => ?_)
    · have q2 := gz_b0 c20
      refine gz_bipush hC (-100) dX8_hand_41 (by decide) ?_
      exact gz_iret hC dX8_hand_43 ⟨gz_v (by unfold sp_hand; first | (rw [q1, q2, hp0, hh0, hf0, nI_clamp (by omega), nI_clamp (by omega), nI_clamp (by omega)]; rfl) | (rw [q1, q2]; rfl) | (rw [q1]; rfl)), rfl⟩
    · have q2 := gz_b1 c20
      obtain ⟨ff, hff, hf0⟩ := gz_in_t (by omega) (by omega) q2
      refine gz_aload_n hC dX8_hand_23 rfl ?_
      refine gz_getR (j := 4) hC dX8_hand_24 cf_X8 fl_X8_19 rfl rfl (by decide) ?_
      refine gz_bipush hC (16) dX8_hand_27 (by decide) ?_
      refine gz_iload_n hC dX8_hand_29 rfl ?_
      refine gz_imul hC dX8_hand_30 ?_
      refine gz_iconst hC (4) dX8_hand_31 (by decide) ?_
      refine gz_iload_n hC dX8_hand_32 rfl ?_
      refine gz_imul hC dX8_hand_33 ?_
      refine gz_iadd hC dX8_hand_34 ?_
      refine gz_iload_n hC dX8_hand_35 rfl ?_
      refine gz_iadd hC dX8_hand_36 ?_
      refine gz_iald hC dX8_hand_37 rfl (by rw [hp0, hh0, hf0, gz_n16, gz_n4, pk_mul, pk_mul, nI_add, nI_add]; exact vp_in_nI (by omega) (by decide)) ?_
      rw [show (16 * p0 + 4 * h0 + f0).toNatClampNeg = 16 * pl + 4 * hh + ff by rw [hp0, hh0, hf0, gz_n16, gz_n4, pk_mul, pk_mul, nI_add, nI_add, nI_clamp (by omega)], (xm_hP hX hpl1).2.1 hh hk1 ff (by omega)]
      refine gz_goto hC 43 dX8_hand_38 (by decide) ?_
      exact gz_iret hC dX8_hand_43 ⟨gz_v (by unfold sp_hand; first | (rw [q1, q2, hp0, hh0, hf0, nI_clamp (by omega), nI_clamp (by omega), nI_clamp (by omega)]; rfl) | (rw [q1, q2]; rfl) | (rw [q1]; rfl)), rfl⟩
set_option maxHeartbeats 4000000 in
set_option maxRecDepth 100000 in
theorem ct_X8_throwsOf (hJ : gz_inj ad lm_lay) (I : Nat → Nat → Int32) (G : Nat → Nat → UInt64) (d0 d1 F : Nat) (w : Bool) (hO : cf_ok d0 d1 F) (hX : xm_tab d0 d1 F w I) (p0 h0 : Int32) : gz_Ct l D ad cy lm_lay yX8_throwsOf cX8_throwsOf 3 (some .int) 3 [.ref (ad 0), .int p0, .int h0] (I, G) (fun v M1 => v = some (.int (sp_throws d0 d1 F p0 h0)) ∧ M1 = (I, G)) := by
  refine gz_met (by decide +kernel) hJ (Nat.le_of_ble_eq_true rfl) ?_
  intro p e s m args below meth c hC
  refine gz_aload_n hC dX8_throwsOf_0 rfl ?_
  refine gz_iload_n hC dX8_throwsOf_1 rfl ?_
  refine gz_iload_n hC dX8_throwsOf_2 rfl ?_
  refine gz_callV2 hC dX8_throwsOf_3 ml_X8_97 rfl rfl (by decide) (by decide) (Nat.le_of_ble_eq_true rfl) (ct_X8_isHand hJ _ _ d0 d1 F w hO hX _ _) (fun v3 M3 hp3 => ?_)
  obtain ⟨rfl, rfl⟩ := hp3
  refine gz_if_eq hC 22 dX8_throwsOf_6 (by decide) (fun c6 => ?_) (fun c6 => ?_)
  · have q1 := gz_b0 c6
    refine gz_bipush hC (-2) dX8_throwsOf_22 (by decide) ?_
    exact gz_iret hC dX8_throwsOf_24 ⟨gz_v (by unfold sp_throws; rw [q1]; first | (rw [hp0, hh0, nI_clamp (by omega), nI_clamp (by omega)]; rfl) | rfl), rfl⟩
  · have q1 := gz_b1 c6
    obtain ⟨pl, hh, hpl1, hk1, hp0, hh0⟩ := sp_hd_t hO q1
    have T1 := tb_facts (cf_okP hO hpl1)
    refine gz_aload_n hC dX8_throwsOf_9 rfl ?_
    refine gz_getR (j := 6) hC dX8_throwsOf_10 cf_X8 fl_X8_26 rfl rfl (by decide) ?_
    refine gz_iconst hC (4) dX8_throwsOf_13 (by decide) ?_
    refine gz_iload_n hC dX8_throwsOf_14 rfl ?_
    refine gz_imul hC dX8_throwsOf_15 ?_
    refine gz_iload_n hC dX8_throwsOf_16 rfl ?_
    refine gz_iadd hC dX8_throwsOf_17 ?_
    refine gz_iald hC dX8_throwsOf_18 rfl (by rw [hp0, hh0, gz_n4, pk_mul, nI_add]; exact vp_in_nI (by omega) (by decide)) ?_
    rw [show (4 * p0 + h0).toNatClampNeg = 4 * pl + hh by rw [hp0, hh0, gz_n4, pk_mul, nI_add, nI_clamp (by omega)], (xm_hP hX hpl1).2.2 hh hk1]
    refine gz_goto hC 24 dX8_throwsOf_19 (by decide) ?_
    exact gz_iret hC dX8_throwsOf_24 ⟨gz_v (by unfold sp_throws; rw [q1]; first | (rw [hp0, hh0, nI_clamp (by omega), nI_clamp (by omega)]; rfl) | rfl), rfl⟩
set_option maxHeartbeats 4000000 in
set_option maxRecDepth 100000 in
theorem ct_X8_countsFor (hJ : gz_inj ad lm_lay) (I : Nat → Nat → Int32) (G : Nat → Nat → UInt64) (d0 d1 F : Nat) (w : Bool) (hO : cf_ok d0 d1 F) (hX : xm_tab d0 d1 F w I) (pl hh ff : Nat) (hp : pl < 2) (hk : hh < tb_n (tb_d d0 d1 pl) F) (hff : ff < 4) (x1 x2 x3 : Int32) (hx1 : x1 = nI pl) (hx2 : x2 = nI hh) (hx3 : x3 = nI ff) : gz_Ct l D ad cy lm_lay yX8_countsFor cX8_countsFor 5 (some .int) 0 [.ref (ad 0), .int x1, .int x2, .int x3] (I, G) (fun v M1 => v = some (.int (nI (tb_cf (tb_d d0 d1 pl) F w hh ff))) ∧ M1 = (I, G)) := by
  have T := tb_facts (cf_okP hO hp)
  refine gz_met (by decide +kernel) hJ (Nat.le_of_ble_eq_true rfl) ?_
  intro p e s m args below meth c hC
  refine gz_bipush hC (16) dX8_countsFor_0 (by decide) ?_
  refine gz_iload_n hC dX8_countsFor_2 rfl ?_
  refine gz_imul hC dX8_countsFor_3 ?_
  refine gz_iconst hC (4) dX8_countsFor_4 (by decide) ?_
  refine gz_iload_n hC dX8_countsFor_5 rfl ?_
  refine gz_imul hC dX8_countsFor_6 ?_
  refine gz_iadd hC dX8_countsFor_7 ?_
  refine gz_istore hC dX8_countsFor_8 (by decide) ?_
  refine gz_aload_n hC dX8_countsFor_10 rfl ?_
  refine gz_getR (j := 4) hC dX8_countsFor_11 cf_X8 fl_X8_19 rfl rfl (by decide) ?_
  refine gz_iload hC dX8_countsFor_14 rfl ?_
  refine gz_iload_n hC dX8_countsFor_16 rfl ?_
  refine gz_iadd hC dX8_countsFor_17 ?_
  refine gz_iald hC dX8_countsFor_18 rfl (by rw [hx1, hx2, hx3, gz_n16, gz_n4, pk_mul, pk_mul, nI_add, nI_add]; exact vp_in_nI (by omega) (by decide)) ?_
  rw [show (16 * x1 + 4 * x2 + x3).toNatClampNeg = 16 * pl + 4 * hh + ff by rw [hx1, hx2, hx3, gz_n16, gz_n4, pk_mul, pk_mul, nI_add, nI_add, nI_clamp (by omega)], (xm_hP hX hp).2.1 hh hk ff hff]
  refine gz_iload_n hC dX8_countsFor_19 rfl ?_
  refine gz_if_le hC 40 dX8_countsFor_20 (by decide) (fun c20 => ?_) (fun c20 => ?_)
  · have q5 : decide (0 < ff) = false := decide_eq_false (fun q => by rw [hx3] at c20; exact nI_nle q (by omega) c20)
    refine gz_iconst hC (0) dX8_countsFor_40 (by decide) ?_
    refine gz_iadd hC dX8_countsFor_41 ?_
    exact gz_iret hC dX8_countsFor_42 ⟨gz_v (by unfold tb_cf; first | (rw [q5, q6]; exact nI_add _ _) | (rw [q5, Bool.and_false]; exact nI_add _ 0) | (rw [q6, Bool.false_and]; exact nI_add _ 0)), rfl⟩
  · have q5 : decide (0 < ff) = true := decide_eq_true (by rcases Nat.eq_zero_or_pos ff with q | q; exact absurd (by rw [hx3, q]; decide) c20; exact q)
    refine gz_aload_n hC dX8_countsFor_23 rfl ?_
    refine gz_getI (j := 3) hC dX8_countsFor_24 cf_X8 fl_X8_86 rfl rfl (by decide) ?_
    rw [hX.1.2.2.2]
    refine gz_if_eq hC 40 dX8_countsFor_27 (by decide) (fun c27 => ?_) (fun c27 => ?_)
    · have q6 := gz_b0 c27
      refine gz_iconst hC (0) dX8_countsFor_40 (by decide) ?_
      refine gz_iadd hC dX8_countsFor_41 ?_
      exact gz_iret hC dX8_countsFor_42 ⟨gz_v (by unfold tb_cf; first | (rw [q5, q6]; exact nI_add _ _) | (rw [q5, Bool.and_false]; exact nI_add _ 0) | (rw [q6, Bool.false_and]; exact nI_add _ 0)), rfl⟩
    · have q6 := gz_b1 c27
      refine gz_aload_n hC dX8_countsFor_30 rfl ?_
      refine gz_getR (j := 4) hC dX8_countsFor_31 cf_X8 fl_X8_19 rfl rfl (by decide) ?_
      refine gz_iload hC dX8_countsFor_34 rfl ?_
      refine gz_iald hC dX8_countsFor_36 rfl (by rw [hx1, hx2, gz_n16, gz_n4, pk_mul, pk_mul, nI_add]; exact vp_in_nI (by omega) (by decide)) ?_
      rw [(show (16 * x1 + 4 * x2).toNatClampNeg = 16 * pl + 4 * hh by rw [hx1, hx2, gz_n16, gz_n4, pk_mul, pk_mul, nI_add, nI_clamp (by omega)]), show I 1 (16 * pl + 4 * hh) = nI (tb_cnt (tb_rw (tb_d d0 d1 pl) F hh) (tb_d d0 d1 pl) 0) from (xm_hP hX hp).2.1 hh hk 0 (by decide)]
      refine gz_goto hC 41 dX8_countsFor_37 (by decide) ?_
      refine gz_iadd hC dX8_countsFor_41 ?_
      exact gz_iret hC dX8_countsFor_42 ⟨gz_v (by unfold tb_cf; first | (rw [q5, q6]; exact nI_add _ _) | (rw [q5, Bool.and_false]; exact nI_add _ 0) | (rw [q6, Bool.false_and]; exact nI_add _ 0)), rfl⟩
set_option maxHeartbeats 4000000 in
set_option maxRecDepth 100000 in
theorem ct_X8_doesHold (hJ : gz_inj ad lm_lay) (I : Nat → Nat → Int32) (G : Nat → Nat → UInt64) (d0 d1 F : Nat) (w : Bool) (hO : cf_ok d0 d1 F) (hX : xm_tab d0 d1 F w I) (gg hh bb : Nat) (x1 x2 x3 : Int32) (hx1 : x1 = nI gg) (hx2 : x2 = nI hh) (hx3 : x3 = nI bb) (hg : gg < tb_n d0 F) (hh1 : hh < tb_n d1 F) (hb : bb < (d0 + d1) * F) : gz_Ct l D ad cy lm_lay yX8_doesHold cX8_doesHold 5 (some .boolean) 1 [.ref (ad 0), .int x1, .int x2, .int x3] (I, G) (fun v M1 => v = some (.int (gz_b (tb_t d0 d1 F w gg hh bb))) ∧ M1 = (I, G)) := by
  have T := tb_facts hO.1
  have U := tb_facts hO.2.1
  have Bd := cf_bids hO
  have hm := Nat.mod_lt bb (show 0 < F by omega)
  have hdv := Nat.div_le_self bb F
  refine gz_met (by decide +kernel) hJ (Nat.le_of_ble_eq_true rfl) ?_
  intro p e s m args below meth c hC
  refine gz_iload_n hC dX8_doesHold_0 rfl ?_
  refine gz_aload_n hC dX8_doesHold_1 rfl ?_
  refine gz_getI (j := 2) hC dX8_doesHold_2 cf_X8 fl_X8_16 rfl rfl (by decide) ?_
  rw [hX.1.2.2.1]
  refine gz_irem hC dX8_doesHold_5 (nI_ne0 (by omega) (by omega)) ?_
  rw [hx3, pk_rem (by omega) (by omega) (by omega), ← hx3]
  refine gz_istore hC dX8_doesHold_6 (by decide) ?_
  refine gz_aload_n hC dX8_doesHold_8 rfl ?_
  refine gz_iconst hC (0) dX8_doesHold_9 (by decide) ?_
  refine gz_iload_n hC dX8_doesHold_10 rfl ?_
  refine gz_iload hC dX8_doesHold_11 rfl ?_
  refine gz_callV3 hC dX8_doesHold_13 ml_X8_101 rfl rfl (by decide) (by decide) (Nat.le_of_ble_eq_true rfl) (ct_X8_countsFor hJ _ _ d0 d1 F w hO hX 0 gg (bb % F) (by decide) hg (by omega) _ _ _ rfl hx1 rfl) (fun v13 M13 hp13 => ?_)
  obtain ⟨rfl, rfl⟩ := hp13
  refine gz_aload_n hC dX8_doesHold_16 rfl ?_
  refine gz_iconst hC (1) dX8_doesHold_17 (by decide) ?_
  refine gz_iload_n hC dX8_doesHold_18 rfl ?_
  refine gz_iload hC dX8_doesHold_19 rfl ?_
  refine gz_callV3 hC dX8_doesHold_21 ml_X8_101 rfl rfl (by decide) (by decide) (Nat.le_of_ble_eq_true rfl) (ct_X8_countsFor hJ _ _ d0 d1 F w hO hX 1 hh (bb % F) (by decide) hh1 (by omega) _ _ _ rfl hx2 rfl) (fun v21 M21 hp21 => ?_)
  obtain ⟨rfl, rfl⟩ := hp21
  refine gz_iadd hC dX8_doesHold_24 ?_
  refine gz_iload_n hC dX8_doesHold_25 rfl ?_
  refine gz_aload_n hC dX8_doesHold_26 rfl ?_
  refine gz_getI (j := 2) hC dX8_doesHold_27 cf_X8 fl_X8_16 rfl rfl (by decide) ?_
  rw [hX.1.2.2.1]
  refine gz_idiv hC dX8_doesHold_30 (nI_ne0 (by omega) (by omega)) ?_
  refine gz_iconst hC (1) dX8_doesHold_31 (by decide) ?_
  refine gz_iadd hC dX8_doesHold_32 ?_
  rw [hx3, pk_div (by omega) (by omega) (by omega), ← hx3, nI_add, nI_1]
  have v1 : tb_cf (tb_d d0 d1 0) F w gg (bb % F) + tb_cf (tb_d d0 d1 1) F w hh (bb % F) = tb_cf d0 F w gg (bb % F) + tb_cf d1 F w hh (bb % F) := rfl
  rw [v1]
  have b1 := tb_cf_le d0 F w gg (bb % F)
  have b2 := tb_cf_le d1 F w hh (bb % F)
  refine gz_icmp_lt hC 40 dX8_doesHold_33 (by decide) (fun c33 => ?_) (fun c33 => ?_)
  · have hv : tb_t d0 d1 F w gg hh bb = false := decide_eq_false (fun q => nI_nlt q (by omega) c33)
    refine gz_iconst hC (0) dX8_doesHold_40 (by decide) ?_
    exact gz_zret rfl hC dX8_doesHold_41 ⟨gz_v (by rw [hv]; rfl), rfl⟩
  · have hv : tb_t d0 d1 F w gg hh bb = true := decide_eq_true ((nI_leI (by omega) (by omega)).mp (by first | exact c33 | exact Int32.not_lt.mp c33))
    refine gz_iconst hC (1) dX8_doesHold_36 (by decide) ?_
    refine gz_goto hC 41 dX8_doesHold_37 (by decide) ?_
    exact gz_zret rfl hC dX8_doesHold_41 ⟨gz_v (by rw [hv]; rfl), rfl⟩
set_option maxHeartbeats 4000000 in
set_option maxRecDepth 100000 in
theorem ct_X8_holds (hJ : gz_inj ad lm_lay) (I : Nat → Nat → Int32) (G : Nat → Nat → UInt64) (d0 d1 F : Nat) (w : Bool) (hO : cf_ok d0 d1 F) (hX : xm_tab d0 d1 F w I) (g0 h0 b0 : Int32) : gz_Ct l D ad cy lm_lay yX8_holds cX8_holds 4 (some .int) 3 [.ref (ad 0), .int g0, .int h0, .int b0] (I, G) (fun v M1 => v = some (.int (sp_holds d0 d1 F w g0 h0 b0)) ∧ M1 = (I, G)) := by
  refine gz_met (by decide +kernel) hJ (Nat.le_of_ble_eq_true rfl) ?_
  intro p e s m args below meth c hC
  refine gz_aload_n hC dX8_holds_0 rfl ?_
  refine gz_iconst hC (0) dX8_holds_1 (by decide) ?_
  refine gz_iload_n hC dX8_holds_2 rfl ?_
  refine gz_callV2 hC dX8_holds_3 ml_X8_97 rfl rfl (by decide) (by decide) (Nat.le_of_ble_eq_true rfl) (ct_X8_isHand hJ _ _ d0 d1 F w hO hX _ _) (fun v3 M3 hp3 => ?_)
  obtain ⟨rfl, rfl⟩ := hp3
  refine gz_if_eq hC 44 dX8_holds_6 (by decide) (fun c6 => ?_) (fun c6 => ?_)
  · have q1 := gz_b0 c6
    refine gz_bipush hC (-2) dX8_holds_44 (by decide) ?_
    exact gz_iret hC dX8_holds_46 ⟨gz_v (by first | (rw [q4, q5]; rfl) | (unfold sp_holds; first | (rw [q1, q2, q3]; rfl) | (rw [q1, q2]; rfl) | (rw [q1]; rfl))), rfl⟩
  · have q1 := gz_b1 c6
    obtain ⟨pl, gg, hpl, hg, hp0, hg0⟩ := sp_hd_t hO q1
    have hpz : pl = 0 := by rcases (show pl = 0 ∨ pl = 1 by omega) with q | q; exact q; exact absurd (hp0.trans (by rw [q])) (by decide)
    subst hpz
    refine gz_aload_n hC dX8_holds_9 rfl ?_
    refine gz_iconst hC (1) dX8_holds_10 (by decide) ?_
    refine gz_iload_n hC dX8_holds_11 rfl ?_
    refine gz_callV2 hC dX8_holds_12 ml_X8_97 rfl rfl (by decide) (by decide) (Nat.le_of_ble_eq_true rfl) (ct_X8_isHand hJ _ _ d0 d1 F w hO hX _ _) (fun v12 M12 hp12 => ?_)
    obtain ⟨rfl, rfl⟩ := hp12
    refine gz_if_eq hC 44 dX8_holds_15 (by decide) (fun c15 => ?_) (fun c15 => ?_)
    · have q2 := gz_b0 c15
      refine gz_bipush hC (-2) dX8_holds_44 (by decide) ?_
      exact gz_iret hC dX8_holds_46 ⟨gz_v (by first | (rw [q4, q5]; rfl) | (unfold sp_holds; first | (rw [q1, q2, q3]; rfl) | (rw [q1, q2]; rfl) | (rw [q1]; rfl))), rfl⟩
    · have q2 := gz_b1 c15
      obtain ⟨pm, hh, hpm, hk, hp1, hh0⟩ := sp_hd_t hO q2
      have hpz : pm = 1 := by rcases (show pm = 0 ∨ pm = 1 by omega) with q | q; exact absurd (hp1.trans (by rw [q])) (by decide); exact q
      subst hpz
      refine gz_aload_n hC dX8_holds_18 rfl ?_
      refine gz_iload_n hC dX8_holds_19 rfl ?_
      refine gz_callV1 hC dX8_holds_20 ml_X8_105 rfl rfl (by decide) (by decide) (Nat.le_of_ble_eq_true rfl) (ct_X8_isBid hJ _ _ d0 d1 F w hX.1 _) (fun v20 M20 hp20 => ?_)
      obtain ⟨rfl, rfl⟩ := hp20
      refine gz_if_eq hC 44 dX8_holds_23 (by decide) (fun c23 => ?_) (fun c23 => ?_)
      · have q3 := gz_b0 c23
        refine gz_bipush hC (-2) dX8_holds_44 (by decide) ?_
        exact gz_iret hC dX8_holds_46 ⟨gz_v (by first | (rw [q4, q5]; rfl) | (unfold sp_holds; first | (rw [q1, q2, q3]; rfl) | (rw [q1, q2]; rfl) | (rw [q1]; rfl))), rfl⟩
      · have q3 := gz_b1 c23
        obtain ⟨bb, hb, hb0⟩ := sp_bid_t hO q3
        have T := tb_facts hO.1
        have U := tb_facts hO.2.1
        have Bd := (cf_bids hO).2
        refine gz_aload_n hC dX8_holds_26 rfl ?_
        refine gz_iload_n hC dX8_holds_27 rfl ?_
        refine gz_iload_n hC dX8_holds_28 rfl ?_
        refine gz_iload_n hC dX8_holds_29 rfl ?_
        refine gz_callV3 hC dX8_holds_30 ml_X8_108 rfl rfl (by decide) (by decide) (Nat.le_of_ble_eq_true rfl) (ct_X8_doesHold hJ _ _ d0 d1 F w hO hX gg hh bb _ _ _ hg0 hh0 hb0 hg hk hb) (fun v30 M30 hp30 => ?_)
        obtain ⟨rfl, rfl⟩ := hp30
        have q4 : sp_holds d0 d1 F w g0 h0 b0 = gz_b (tb_t d0 d1 F w gg hh bb) := by
          have e1 : tb_n (tb_d d0 d1 0) F ≤ 4 := T.2.2.2.2.1
          have e2 : tb_n (tb_d d0 d1 1) F ≤ 4 := U.2.2.2.2.1
          unfold sp_holds
          rw [q1, q2, q3, hg0, hh0, hb0, nI_clamp (by omega), nI_clamp (by omega), nI_clamp (by omega)]
          rfl
        refine gz_if_eq hC 40 dX8_holds_33 (by decide) (fun c33 => ?_) (fun c33 => ?_)
        · have q5 := gz_b0 c33
          refine gz_iconst hC (0) dX8_holds_40 (by decide) ?_
          refine gz_goto hC 46 dX8_holds_41 (by decide) ?_
          exact gz_iret hC dX8_holds_46 ⟨gz_v (by first | (rw [q4, q5]; rfl) | (unfold sp_holds; first | (rw [q1, q2, q3]; rfl) | (rw [q1, q2]; rfl) | (rw [q1]; rfl))), rfl⟩
        · have q5 := gz_b1 c33
          refine gz_iconst hC (1) dX8_holds_36 (by decide) ?_
          refine gz_goto hC 46 dX8_holds_37 (by decide) ?_
          exact gz_iret hC dX8_holds_46 ⟨gz_v (by first | (rw [q4, q5]; rfl) | (unfold sp_holds; first | (rw [q1, q2, q3]; rfl) | (rw [q1, q2]; rfl) | (rw [q1]; rfl))), rfl⟩
set_option maxHeartbeats 4000000 in
set_option maxRecDepth 100000 in
theorem ct_X8_power (hJ : gz_inj ad lm_lay) (I : Nat → Nat → Int32) (G : Nat → Nat → UInt64) (d0 d1 F : Nat) (w : Bool) (hX : xm_c d0 d1 F w I) (n0 : Nat) (hn0 : n0 < 100) (x1 : Int32) (hx1 : x1 = nI n0) : gz_Ct l D ad cy lm_lay yX8_power cX8_power 4 (some .int) 0 [.ref (ad 0), .int x1] (I, G) (fun v M1 => v = some (.int (nI (F ^ n0))) ∧ M1 = (I, G)) := by
  refine gz_met (by decide +kernel) hJ (Nat.le_of_ble_eq_true rfl) ?_
  intro p e s m args below meth c hC
  refine gz_iconst hC (1) dX8_power_0 (by decide) ?_
  refine gz_istore_n hC dX8_power_1 (by decide) ?_
  refine gz_iconst hC (0) dX8_power_2 (by decide) ?_
  refine gz_istore_n hC dX8_power_3 (by decide) ?_
  have lp : ∀ (n i : Nat) (x2 x3 : Int32) (hi : i + n = n0) (hx3 : x3 = nI i) (hx2 : x2 = nI (F ^ i)), gz_W p l e (gz_rm 0) s m args below meth c D ad cy lm_lay 4 (MQ below (gz_Q D ad cy lm_lay (fun v M1 => v = some (.int (nI (F ^ n0))) ∧ M1 = (I, G))) args s 0 0 (gz_A ad lm_lay)) (I, G) 4 [(0, .ref (ad 0)), (1, .int x1), (2, .int x2), (3, .int x3)] [] := by
    intro n
    induction n with
    | zero =>
      intro i x2 x3 hi hx3 hx2
      refine gz_iload_n hC dX8_power_4 rfl ?_
      refine gz_iload_n hC dX8_power_5 rfl ?_
      refine gz_icmp_ge hC 22 dX8_power_6 (by decide) (fun c6 => ?_) (fun c6 => ?_)
      · refine gz_iload_n hC dX8_power_22 rfl ?_
        exact gz_iret hC dX8_power_23 ⟨gz_v (by rw [hx2, show i = n0 by omega]), rfl⟩
      · exact absurd (gz_ile hx1 hx3 (by omega) (by omega)) c6
    | succ n ih =>
      intro i x2 x3 hi hx3 hx2
      refine gz_iload_n hC dX8_power_4 rfl ?_
      refine gz_iload_n hC dX8_power_5 rfl ?_
      refine gz_icmp_ge hC 22 dX8_power_6 (by decide) (fun c6 => ?_) (fun c6 => ?_)
      · exact absurd c6 (gz_inle hx1 hx3 (by omega) (by omega))
      · refine gz_iload_n hC dX8_power_9 rfl ?_
        refine gz_aload_n hC dX8_power_10 rfl ?_
        refine gz_getI (j := 2) hC dX8_power_11 cf_X8 fl_X8_16 rfl rfl (by decide) ?_
        refine gz_imul hC dX8_power_14 ?_
        refine gz_istore_n hC dX8_power_15 (by decide) ?_
        refine gz_iinc hC (1) dX8_power_16 rfl (by decide) (by decide) ?_
        refine gz_goto hC 4 dX8_power_19 (by decide) ?_
        refine gz_lw [(0, .ref (ad 0)), (1, .int x1), (2, .int (x2 * I 0 2)), (3, .int (x3 + 1))] ⟨rfl, rfl, rfl, rfl, trivial⟩ ?_
        exact ih (i + 1) _ _ (by omega) (gz_i1 hx3) (by rw [hx2, hX.2.2.1, pk_mul, Nat.pow_succ])
  exact gz_lw [(0, .ref (ad 0)), (1, .int x1), (2, .int 1), (3, .int 0)] ⟨rfl, rfl, rfl, rfl, trivial⟩ (lp n0 0 1 0 (by omega) rfl rfl)
  -- places not laid: [5, 6, 9, 10, 11, 14, 15, 16, 19, 22, 23]
set_option maxHeartbeats 4000000 in
set_option maxRecDepth 100000 in
theorem ct_X8_throwsFor (hJ : gz_inj ad lm_lay) (I : Nat → Nat → Int32) (G : Nat → Nat → UInt64) (d0 d1 F : Nat) (w : Bool) (hO : cf_ok d0 d1 F) (hX : xm_tab d0 d1 F w I) (pl hh bb : Nat) (hp : pl < 2) (hk : hh < tb_n (tb_d d0 d1 pl) F) (hb : bb < (d0 + d1) * F) (x1 x2 x3 : Int32) (hx1 : x1 = nI pl) (hx2 : x2 = nI hh) (hx3 : x3 = nI bb) : gz_Ct l D ad cy lm_lay yX8_throwsFor cX8_throwsFor 7 (some .int) 2 [.ref (ad 0), .int x1, .int x2, .int x3] (I, G) (fun v M1 => v = some (.int (nI (tb_ab d0 d1 F w pl hh bb))) ∧ M1 = (I, G)) := by
  have U := tb_facts (cf_okP hO (show 1 - pl < 2 by omega))
  have T := tb_facts (cf_okP hO hp)
  have Bd := cf_bids hO
  refine gz_met (by decide +kernel) hJ (Nat.le_of_ble_eq_true rfl) ?_
  intro p e s m args below meth c hC
  refine gz_iconst hC (1) dX8_throwsFor_0 (by decide) ?_
  refine gz_iload_n hC dX8_throwsFor_1 rfl ?_
  refine gz_isub hC dX8_throwsFor_2 ?_
  refine gz_istore hC dX8_throwsFor_3 (by decide) ?_
  refine gz_iconst hC (0) dX8_throwsFor_5 (by decide) ?_
  refine gz_istore hC dX8_throwsFor_6 (by decide) ?_
  refine gz_iconst hC (0) dX8_throwsFor_8 (by decide) ?_
  refine gz_istore hC dX8_throwsFor_9 (by decide) ?_
  obtain ⟨x4, hx4e⟩ : ∃ z, z = 1 - x1 := ⟨_, rfl⟩
  have hx4 : x4 = nI (1 - pl) := by rw [hx4e, hx1, gz_n1, pk_sub (by omega)]
  rw [← hx4e]
  have lp : ∀ (n k : Nat) (x5 x6 : Int32) (hi : k + n = (tb_n (tb_d d0 d1 (1 - pl)) F)) (hx6 : x6 = nI k) (hx5 : x5 = nI (tb_wh d0 d1 F w pl hh bb k)), gz_W p l e (gz_rm 2) s m args below meth c D ad cy lm_lay 7 (MQ below (gz_Q D ad cy lm_lay (fun v M1 => v = some (.int (nI (tb_ab d0 d1 F w pl hh bb))) ∧ M1 = (I, G))) args s 0 0 (gz_A ad lm_lay)) (I, G) 11 [(0, .ref (ad 0)), (1, .int x1), (2, .int x2), (3, .int x3), (4, .int x4), (5, .int x5), (6, .int x6)] [] := by
    intro n
    induction n with
    | zero =>
      intro k x5 x6 hi hx6 hx5
      refine gz_iload hC dX8_throwsFor_11 rfl ?_
      refine gz_aload_n hC dX8_throwsFor_13 rfl ?_
      refine gz_getR (j := 5) hC dX8_throwsFor_14 cf_X8 fl_X8_23 rfl rfl (by decide) ?_
      refine gz_iload hC dX8_throwsFor_17 rfl ?_
      refine gz_iald hC dX8_throwsFor_19 rfl (by rw [hx4]; exact vp_in_nI (by omega) (by decide)) ?_
      rw [show x4.toNatClampNeg = 1 - pl by rw [hx4, nI_clamp (by omega)]]
      rw [(xm_hP hX (show 1 - pl < 2 by omega)).1]
      refine gz_icmp_ge hC 78 dX8_throwsFor_20 (by decide) (fun c20 => ?_) (fun c20 => ?_)
      · refine gz_iload hC dX8_throwsFor_78 rfl ?_
        exact gz_iret hC dX8_throwsFor_80 ⟨gz_v (by rw [hx5, show k = (tb_n (tb_d d0 d1 (1 - pl)) F) by omega]; rfl), rfl⟩
      · exact absurd (gz_ile rfl hx6 (by omega) (by omega)) c20
    | succ n ih =>
      intro k x5 x6 hi hx6 hx5
      refine gz_iload hC dX8_throwsFor_11 rfl ?_
      refine gz_aload_n hC dX8_throwsFor_13 rfl ?_
      refine gz_getR (j := 5) hC dX8_throwsFor_14 cf_X8 fl_X8_23 rfl rfl (by decide) ?_
      refine gz_iload hC dX8_throwsFor_17 rfl ?_
      refine gz_iald hC dX8_throwsFor_19 rfl (by rw [hx4]; exact vp_in_nI (by omega) (by decide)) ?_
      rw [show x4.toNatClampNeg = 1 - pl by rw [hx4, nI_clamp (by omega)]]
      rw [(xm_hP hX (show 1 - pl < 2 by omega)).1]
      refine gz_icmp_ge hC 78 dX8_throwsFor_20 (by decide) (fun c20 => ?_) (fun c20 => ?_)
      · exact absurd c20 (gz_inle rfl hx6 (by omega) (by omega))
      · refine gz_iload hC dX8_throwsFor_23 rfl ?_
        refine gz_aload_n hC dX8_throwsFor_25 rfl ?_
        refine gz_iload_n hC dX8_throwsFor_26 rfl ?_
        refine gz_if_ne hC 34 dX8_throwsFor_27 (by decide) (fun c27 => ?_) (fun c27 => ?_)
        · have e27 : pl = 1 := by rcases (show pl = 0 ∨ pl = 1 by omega) with q | q; exact absurd (by rw [hx1, q]; rfl) c27; exact q
          refine gz_iload hC dX8_throwsFor_34 rfl ?_
          refine gz_iload_n hC dX8_throwsFor_36 rfl ?_
          refine gz_if_ne hC 45 dX8_throwsFor_37 (by decide) (fun c37 => ?_) (fun c37 => ?_)
          · refine gz_iload_n hC dX8_throwsFor_45 rfl ?_
            refine gz_iload_n hC dX8_throwsFor_46 rfl ?_
            refine gz_callV3 hC dX8_throwsFor_47 ml_X8_108 rfl rfl (show 1 + 1 ≤ 2 by decide) (by decide) (Nat.le_of_ble_eq_true rfl) ((by first | exact ct_X8_doesHold hJ _ _ d0 d1 F w hO hX hh k bb _ _ _ hx2 hx6 hx3 (by subst e27; exact hk) (by subst e27; have q : k < tb_n (tb_d d0 d1 (1 - 0)) F := (by omega); exact q) hb | exact ct_X8_doesHold hJ _ _ d0 d1 F w hO hX k hh bb _ _ _ hx6 hx2 hx3 (by subst e27; have q : k < tb_n (tb_d d0 d1 (1 - 1)) F := (by omega); exact q) (by subst e27; exact hk) hb)) (fun v47 M47 hp47 => ?_)
            obtain ⟨rfl, rfl⟩ := hp47
            refine gz_if_eq hC 68 dX8_throwsFor_50 (by decide) (fun c50 => ?_) (fun c50 => ?_)
            · have hv : tb_tf d0 d1 F w pl hh k bb = false := by unfold tb_tf; rw [e27]; exact gz_b0 c50
              refine gz_iconst hC (0) dX8_throwsFor_68 (by decide) ?_
              refine gz_iadd hC dX8_throwsFor_69 ?_
              refine gz_istore hC dX8_throwsFor_70 (by decide) ?_
              refine gz_iinc hC (1) dX8_throwsFor_72 rfl (by decide) (by decide) ?_
              refine gz_goto hC 11 dX8_throwsFor_75 (by decide) ?_
              first
                | (have hv1 : tb_tf d0 d1 F w pl hh k bb = true := hv
                   refine gz_lw [(0, .ref (ad 0)), (1, .int x1), (2, .int x2), (3, .int x3), (4, .int x4), (5, .int _), (6, .int (x6 + 1))] ⟨rfl, rfl, rfl, rfl, rfl, rfl, rfl, trivial⟩ ?_
                   exact ih (k + 1) _ _ (by omega) (gz_i1 hx6) (by rw [hx5, nI_add]; show nI (_ + tb_w _ _ _) = nI (_ + cond (tb_tf d0 d1 F w pl hh k bb) _ _); rw [hv1]; rfl)
                   done)
                | (have hv1 : tb_tf d0 d1 F w pl hh k bb = false := hv
                   refine gz_lw [(0, .ref (ad 0)), (1, .int x1), (2, .int x2), (3, .int x3), (4, .int x4), (5, .int _), (6, .int (x6 + 1))] ⟨rfl, rfl, rfl, rfl, rfl, rfl, rfl, trivial⟩ ?_
                   exact ih (k + 1) _ _ (by omega) (gz_i1 hx6) (by rw [hx5, Int32.add_zero]; show nI _ = nI (_ + cond (tb_tf d0 d1 F w pl hh k bb) _ _); rw [hv1]; rfl)
                   done)
            · have hv : tb_tf d0 d1 F w pl hh k bb = true := by unfold tb_tf; rw [e27]; exact gz_b1 c50
              refine gz_aload_n hC dX8_throwsFor_53 rfl ?_
              refine gz_getR (j := 6) hC dX8_throwsFor_54 cf_X8 fl_X8_26 rfl rfl (by decide) ?_
              refine gz_iconst hC (4) dX8_throwsFor_57 (by decide) ?_
              refine gz_iload hC dX8_throwsFor_58 rfl ?_
              refine gz_imul hC dX8_throwsFor_60 ?_
              refine gz_iload hC dX8_throwsFor_61 rfl ?_
              refine gz_iadd hC dX8_throwsFor_63 ?_
              refine gz_iald hC dX8_throwsFor_64 rfl (by rw [hx4, hx6, gz_n4, pk_mul, nI_add]; exact vp_in_nI (by omega) (by decide)) ?_
              rw [show (4 * x4 + x6).toNatClampNeg = 4 * (1 - pl) + k by rw [hx4, hx6, gz_n4, pk_mul, nI_add, nI_clamp (by omega)], (xm_hP hX (show 1 - pl < 2 by omega)).2.2 k (by omega)]
              refine gz_goto hC 69 dX8_throwsFor_65 (by decide) ?_
              refine gz_iadd hC dX8_throwsFor_69 ?_
              refine gz_istore hC dX8_throwsFor_70 (by decide) ?_
              refine gz_iinc hC (1) dX8_throwsFor_72 rfl (by decide) (by decide) ?_
              refine gz_goto hC 11 dX8_throwsFor_75 (by decide) ?_
              first
                | (have hv1 : tb_tf d0 d1 F w pl hh k bb = true := hv
                   refine gz_lw [(0, .ref (ad 0)), (1, .int x1), (2, .int x2), (3, .int x3), (4, .int x4), (5, .int _), (6, .int (x6 + 1))] ⟨rfl, rfl, rfl, rfl, rfl, rfl, rfl, trivial⟩ ?_
                   exact ih (k + 1) _ _ (by omega) (gz_i1 hx6) (by rw [hx5, nI_add]; show nI (_ + tb_w _ _ _) = nI (_ + cond (tb_tf d0 d1 F w pl hh k bb) _ _); rw [hv1]; rfl)
                   done)
                | (have hv1 : tb_tf d0 d1 F w pl hh k bb = false := hv
                   refine gz_lw [(0, .ref (ad 0)), (1, .int x1), (2, .int x2), (3, .int x3), (4, .int x4), (5, .int _), (6, .int (x6 + 1))] ⟨rfl, rfl, rfl, rfl, rfl, rfl, rfl, trivial⟩ ?_
                   exact ih (k + 1) _ _ (by omega) (gz_i1 hx6) (by rw [hx5, Int32.add_zero]; show nI _ = nI (_ + cond (tb_tf d0 d1 F w pl hh k bb) _ _); rw [hv1]; rfl)
                   done)
          · exact absurd c37 (by rw [hx1, e27]; decide)
        · have e27 : pl = 0 := by rcases (show pl = 0 ∨ pl = 1 by omega) with q | q; exact q; exact absurd c27 (by rw [hx1, q]; decide)
          refine gz_iload_n hC dX8_throwsFor_30 rfl ?_
          refine gz_goto hC 36 dX8_throwsFor_31 (by decide) ?_
          refine gz_iload_n hC dX8_throwsFor_36 rfl ?_
          refine gz_if_ne hC 45 dX8_throwsFor_37 (by decide) (fun c37 => ?_) (fun c37 => ?_)
          · exact absurd (by rw [hx1, e27]; rfl) c37
          · refine gz_iload hC dX8_throwsFor_40 rfl ?_
            refine gz_goto hC 46 dX8_throwsFor_42 (by decide) ?_
            refine gz_iload_n hC dX8_throwsFor_46 rfl ?_
            refine gz_callV3 hC dX8_throwsFor_47 ml_X8_108 rfl rfl (show 1 + 1 ≤ 2 by decide) (by decide) (Nat.le_of_ble_eq_true rfl) ((by first | exact ct_X8_doesHold hJ _ _ d0 d1 F w hO hX hh k bb _ _ _ hx2 hx6 hx3 (by subst e27; exact hk) (by subst e27; have q : k < tb_n (tb_d d0 d1 (1 - 0)) F := (by omega); exact q) hb | exact ct_X8_doesHold hJ _ _ d0 d1 F w hO hX k hh bb _ _ _ hx6 hx2 hx3 (by subst e27; have q : k < tb_n (tb_d d0 d1 (1 - 1)) F := (by omega); exact q) (by subst e27; exact hk) hb)) (fun v47 M47 hp47 => ?_)
            obtain ⟨rfl, rfl⟩ := hp47
            refine gz_if_eq hC 68 dX8_throwsFor_50 (by decide) (fun c50 => ?_) (fun c50 => ?_)
            · have hv : tb_tf d0 d1 F w pl hh k bb = false := by unfold tb_tf; rw [e27]; exact gz_b0 c50
              refine gz_iconst hC (0) dX8_throwsFor_68 (by decide) ?_
              refine gz_iadd hC dX8_throwsFor_69 ?_
              refine gz_istore hC dX8_throwsFor_70 (by decide) ?_
              refine gz_iinc hC (1) dX8_throwsFor_72 rfl (by decide) (by decide) ?_
              refine gz_goto hC 11 dX8_throwsFor_75 (by decide) ?_
              first
                | (have hv1 : tb_tf d0 d1 F w pl hh k bb = true := hv
                   refine gz_lw [(0, .ref (ad 0)), (1, .int x1), (2, .int x2), (3, .int x3), (4, .int x4), (5, .int _), (6, .int (x6 + 1))] ⟨rfl, rfl, rfl, rfl, rfl, rfl, rfl, trivial⟩ ?_
                   exact ih (k + 1) _ _ (by omega) (gz_i1 hx6) (by rw [hx5, nI_add]; show nI (_ + tb_w _ _ _) = nI (_ + cond (tb_tf d0 d1 F w pl hh k bb) _ _); rw [hv1]; rfl)
                   done)
                | (have hv1 : tb_tf d0 d1 F w pl hh k bb = false := hv
                   refine gz_lw [(0, .ref (ad 0)), (1, .int x1), (2, .int x2), (3, .int x3), (4, .int x4), (5, .int _), (6, .int (x6 + 1))] ⟨rfl, rfl, rfl, rfl, rfl, rfl, rfl, trivial⟩ ?_
                   exact ih (k + 1) _ _ (by omega) (gz_i1 hx6) (by rw [hx5, Int32.add_zero]; show nI _ = nI (_ + cond (tb_tf d0 d1 F w pl hh k bb) _ _); rw [hv1]; rfl)
                   done)
            · have hv : tb_tf d0 d1 F w pl hh k bb = true := by unfold tb_tf; rw [e27]; exact gz_b1 c50
              refine gz_aload_n hC dX8_throwsFor_53 rfl ?_
              refine gz_getR (j := 6) hC dX8_throwsFor_54 cf_X8 fl_X8_26 rfl rfl (by decide) ?_
              refine gz_iconst hC (4) dX8_throwsFor_57 (by decide) ?_
              refine gz_iload hC dX8_throwsFor_58 rfl ?_
              refine gz_imul hC dX8_throwsFor_60 ?_
              refine gz_iload hC dX8_throwsFor_61 rfl ?_
              refine gz_iadd hC dX8_throwsFor_63 ?_
              refine gz_iald hC dX8_throwsFor_64 rfl (by rw [hx4, hx6, gz_n4, pk_mul, nI_add]; exact vp_in_nI (by omega) (by decide)) ?_
              rw [show (4 * x4 + x6).toNatClampNeg = 4 * (1 - pl) + k by rw [hx4, hx6, gz_n4, pk_mul, nI_add, nI_clamp (by omega)], (xm_hP hX (show 1 - pl < 2 by omega)).2.2 k (by omega)]
              refine gz_goto hC 69 dX8_throwsFor_65 (by decide) ?_
              refine gz_iadd hC dX8_throwsFor_69 ?_
              refine gz_istore hC dX8_throwsFor_70 (by decide) ?_
              refine gz_iinc hC (1) dX8_throwsFor_72 rfl (by decide) (by decide) ?_
              refine gz_goto hC 11 dX8_throwsFor_75 (by decide) ?_
              first
                | (have hv1 : tb_tf d0 d1 F w pl hh k bb = true := hv
                   refine gz_lw [(0, .ref (ad 0)), (1, .int x1), (2, .int x2), (3, .int x3), (4, .int x4), (5, .int _), (6, .int (x6 + 1))] ⟨rfl, rfl, rfl, rfl, rfl, rfl, rfl, trivial⟩ ?_
                   exact ih (k + 1) _ _ (by omega) (gz_i1 hx6) (by rw [hx5, nI_add]; show nI (_ + tb_w _ _ _) = nI (_ + cond (tb_tf d0 d1 F w pl hh k bb) _ _); rw [hv1]; rfl)
                   done)
                | (have hv1 : tb_tf d0 d1 F w pl hh k bb = false := hv
                   refine gz_lw [(0, .ref (ad 0)), (1, .int x1), (2, .int x2), (3, .int x3), (4, .int x4), (5, .int _), (6, .int (x6 + 1))] ⟨rfl, rfl, rfl, rfl, rfl, rfl, rfl, trivial⟩ ?_
                   exact ih (k + 1) _ _ (by omega) (gz_i1 hx6) (by rw [hx5, Int32.add_zero]; show nI _ = nI (_ + cond (tb_tf d0 d1 F w pl hh k bb) _ _); rw [hv1]; rfl)
                   done)
  exact gz_lw [(0, .ref (ad 0)), (1, .int x1), (2, .int x2), (3, .int x3), (4, .int x4), (5, .int 0), (6, .int 0)] ⟨rfl, rfl, rfl, rfl, rfl, rfl, rfl, trivial⟩ (lp (tb_n (tb_d d0 d1 (1 - pl)) F) 0 0 0 (by omega) rfl rfl)
  -- places not laid: [13, 14, 17, 19, 20, 23, 25, 26, 27, 30, 31, 34, 36, 37, 40, 42, 45, 46, 47, 50, 53, 54, 57, 58, 60, 61, 63, 64, 65, 68, 69, 70, 72, 75, 78, 80]
set_option maxHeartbeats 4000000 in
set_option maxRecDepth 100000 in
theorem ct_X8_chance (hJ : gz_inj ad lm_lay) (I : Nat → Nat → Int32) (G : Nat → Nat → UInt64) (d0 d1 F : Nat) (w : Bool) (hO : cf_ok d0 d1 F) (hX : xm_tab d0 d1 F w I) (p0 h0 b0 w0 : Int32) : gz_Ct l D ad cy lm_lay yX8_chance cX8_chance 10 (some .int) 3 [.ref (ad 0), .int p0, .int h0, .int b0, .int w0] (I, G) (fun v M1 => v = some (.int (sp_chance d0 d1 F w p0 h0 b0 w0)) ∧ M1 = (I, G)) := by
  refine gz_met (by decide +kernel) hJ (Nat.le_of_ble_eq_true rfl) ?_
  intro p e s m args below meth c hC
  refine gz_aload_n hC dX8_chance_0 rfl ?_
  refine gz_iload_n hC dX8_chance_1 rfl ?_
  refine gz_iload_n hC dX8_chance_2 rfl ?_
  refine gz_callV2 hC dX8_chance_3 ml_X8_97 rfl rfl (by decide) (by decide) (Nat.le_of_ble_eq_true rfl) (ct_X8_isHand hJ _ _ d0 d1 F w hO hX _ _) (fun v3 M3 hp3 => ?_)
  obtain ⟨rfl, rfl⟩ := hp3
  refine gz_if_eq hC 27 dX8_chance_6 (by decide) (fun c6 => ?_) (fun c6 => ?_)
  · have q1 := gz_b0 c6
    refine gz_bipush hC (-2) dX8_chance_27 (by decide) ?_
    exact gz_iret hC dX8_chance_29 ⟨gz_v (by unfold sp_chance; first | (rw [q1, q2, q3]; rfl) | (rw [q1, q2]; rfl) | (rw [q1]; rfl)), rfl⟩
  · have q1 := gz_b1 c6
    obtain ⟨pl, hh, hpl1, hk1, hp0, hh0⟩ := sp_hd_t hO q1
    have T1 := tb_facts (cf_okP hO hpl1)
    refine gz_aload_n hC dX8_chance_9 rfl ?_
    refine gz_iload_n hC dX8_chance_10 rfl ?_
    refine gz_callV1 hC dX8_chance_11 ml_X8_105 rfl rfl (by decide) (by decide) (Nat.le_of_ble_eq_true rfl) (ct_X8_isBid hJ _ _ d0 d1 F w hX.1 _) (fun v11 M11 hp11 => ?_)
    obtain ⟨rfl, rfl⟩ := hp11
    refine gz_if_eq hC 27 dX8_chance_14 (by decide) (fun c14 => ?_) (fun c14 => ?_)
    · have q2 := gz_b0 c14
      refine gz_bipush hC (-2) dX8_chance_27 (by decide) ?_
      exact gz_iret hC dX8_chance_29 ⟨gz_v (by unfold sp_chance; first | (rw [q1, q2, q3]; rfl) | (rw [q1, q2]; rfl) | (rw [q1]; rfl)), rfl⟩
    · have q2 := gz_b1 c14
      obtain ⟨bb, hb, hb0⟩ := sp_bid_t hO q2
      have Bd := (cf_bids hO).2
      refine gz_iload hC dX8_chance_17 rfl ?_
      refine gz_iconst hC (0) dX8_chance_19 (by decide) ?_
      refine gz_iconst hC (1) dX8_chance_20 (by decide) ?_
      refine gz_callS3 hC dX8_chance_21 ml_X8_82 (by decide) (by decide) (Nat.le_of_ble_eq_true rfl) (ct_X8_in hJ _ _ _ _ _) (fun v21 M21 hp21 => ?_)
      obtain ⟨rfl, rfl⟩ := hp21
      refine gz_if_ne hC 30 dX8_chance_24 (by decide) (fun c24 => ?_) (fun c24 => ?_)
      · have q3 := gz_b1 c24
        obtain ⟨ww, hww, hw0⟩ := gz_in_2 q3
        refine gz_aload_n hC dX8_chance_30 rfl ?_
        refine gz_iload_n hC dX8_chance_31 rfl ?_
        refine gz_iload_n hC dX8_chance_32 rfl ?_
        refine gz_iload_n hC dX8_chance_33 rfl ?_
        refine gz_callV3 hC dX8_chance_34 ml_X8_111 rfl rfl (by decide) (by decide) (Nat.le_of_ble_eq_true rfl) (ct_X8_throwsFor hJ _ _ d0 d1 F w hO hX pl hh bb hpl1 hk1 hb _ _ _ hp0 hh0 hb0) (fun v34 M34 hp34 => ?_)
        obtain ⟨rfl, rfl⟩ := hp34
        refine gz_istore hC dX8_chance_37 (by decide) ?_
        refine gz_aload_n hC dX8_chance_39 rfl ?_
        refine gz_aload_n hC dX8_chance_40 rfl ?_
        refine gz_iconst hC (1) dX8_chance_41 (by decide) ?_
        refine gz_iload_n hC dX8_chance_42 rfl ?_
        refine gz_isub hC dX8_chance_43 ?_
        refine gz_callV1 hC dX8_chance_44 ml_X8_67 rfl rfl (by decide) (by decide) (Nat.le_of_ble_eq_true rfl) (ct_X8_dice hJ _ _ d0 d1 F w hX.1 (1 - pl) (by omega) _ (by rw [hp0, gz_n1, pk_sub (by omega)])) (fun v44 M44 hp44 => ?_)
        obtain ⟨rfl, rfl⟩ := hp44
        refine gz_callV1 hC dX8_chance_47 ml_X8_114 rfl rfl (by decide) (by decide) (Nat.le_of_ble_eq_true rfl) (ct_X8_power hJ _ _ d0 d1 F w hX.1 (tb_d d0 d1 (1 - pl)) (by have := (tb_facts (cf_okP hO (show 1 - pl < 2 by omega))).2.2.2.2.2.1; omega) _ rfl) (fun v47 M47 hp47 => ?_)
        obtain ⟨rfl, rfl⟩ := hp47
        refine gz_istore hC dX8_chance_50 (by decide) ?_
        refine gz_iload hC dX8_chance_52 rfl ?_
        refine gz_istore hC dX8_chance_54 (by decide) ?_
        refine gz_iload hC dX8_chance_56 rfl ?_
        refine gz_istore hC dX8_chance_58 (by decide) ?_
        have a1 := tb_ab_le hO w pl hh bb hpl1
        have a2 := tb_be_in hO hpl1
        have a3 : 0 < Nat.gcd (tb_ab d0 d1 F w pl hh bb) (tb_be d0 d1 F pl) := Nat.gcd_pos_of_pos_right _ a2.1
        have a4 : Nat.gcd (tb_ab d0 d1 F w pl hh bb) (tb_be d0 d1 F pl) ≤ tb_be d0 d1 F pl := Nat.gcd_le_right _ a2.1
        have lp : ∀ (n xn yn : Nat) (x7 x8 : Int32) (hyn : yn ≤ n) (hxb : xn < 60) (hyb : yn < 60) (hg : Nat.gcd xn yn = Nat.gcd (tb_ab d0 d1 F w pl hh bb) (tb_be d0 d1 F pl)) (hx7 : x7 = nI xn) (hx8 : x8 = nI yn), gz_W p l e (gz_rm 3) s m args below meth c D ad cy lm_lay 10 (MQ below (gz_Q D ad cy lm_lay (fun v M1 => v = some (.int (sp_chance d0 d1 F w p0 h0 b0 w0)) ∧ M1 = (I, G))) args s 0 0 (gz_A ad lm_lay)) (I, G) 60 [(0, .ref (ad 0)), (1, .int p0), (2, .int h0), (3, .int b0), (4, .int w0), (5, .int (nI (tb_ab d0 d1 F w pl hh bb))), (6, .int (nI (tb_be d0 d1 F pl))), (7, .int x7), (8, .int x8)] [] := by
          intro n
          induction n with
          | zero =>
            intro xn yn x7 x8 hyn hxb hyb hg hx7 hx8
            refine gz_iload hC dX8_chance_60 rfl ?_
            refine gz_if_eq hC 83 dX8_chance_62 (by decide) (fun c62 => ?_) (fun c62 => ?_)
            · have hyz : yn = 0 := by omega
              have hg1 : xn = Nat.gcd (tb_ab d0 d1 F w pl hh bb) (tb_be d0 d1 F pl) := by rw [← hg, hyz, Nat.gcd_zero_right]
              have hg0 : 0 < xn := by rw [hg1]; exact a3
              have hg2 : xn ≤ 8 := by rw [hg1]; exact Nat.le_trans a4 a2.2
              refine gz_iload hC dX8_chance_83 rfl ?_
              refine gz_if_ne hC 96 dX8_chance_85 (by decide) (fun c85 => ?_) (fun c85 => ?_)
              · have hwz : ¬ ww = 0 := fun q => c85 (by rw [hw0, q]; rfl)
                refine gz_iload hC dX8_chance_96 rfl ?_
                refine gz_iload hC dX8_chance_98 rfl ?_
                refine gz_idiv hC dX8_chance_100 (by rw [hx7]; exact nI_ne0 hg0 (by omega)) ?_
                exact gz_iret hC dX8_chance_101 ⟨gz_v (by unfold sp_chance; rw [q1, q2, q3, hx7]; rw [show p0.toNatClampNeg = pl by rw [hp0, nI_clamp (by omega)], show h0.toNatClampNeg = hh by rw [hh0, nI_clamp (by omega)], show b0.toNatClampNeg = bb by rw [hb0, nI_clamp (by omega)], show w0.toNatClampNeg = ww by rw [hw0, nI_clamp (by omega)], pk_div (by omega) hg0 (by omega)]; show _ = nI ((if ww = 0 then _ else _) / _); first | (rw [if_pos hwz, hg1]) | (rw [if_neg hwz, hg1])), rfl⟩
              · have hwz : ww = 0 := by rcases (show ww = 0 ∨ ww = 1 by omega) with q | q; exact q; exact absurd c85 (by rw [hw0, q]; decide)
                refine gz_iload hC dX8_chance_88 rfl ?_
                refine gz_iload hC dX8_chance_90 rfl ?_
                refine gz_idiv hC dX8_chance_92 (by rw [hx7]; exact nI_ne0 hg0 (by omega)) ?_
                refine gz_goto hC 101 dX8_chance_93 (by decide) ?_
                exact gz_iret hC dX8_chance_101 ⟨gz_v (by unfold sp_chance; rw [q1, q2, q3, hx7]; rw [show p0.toNatClampNeg = pl by rw [hp0, nI_clamp (by omega)], show h0.toNatClampNeg = hh by rw [hh0, nI_clamp (by omega)], show b0.toNatClampNeg = bb by rw [hb0, nI_clamp (by omega)], show w0.toNatClampNeg = ww by rw [hw0, nI_clamp (by omega)], pk_div (by omega) hg0 (by omega)]; show _ = nI ((if ww = 0 then _ else _) / _); first | (rw [if_pos hwz, hg1]) | (rw [if_neg hwz, hg1])), rfl⟩
            · exact absurd (by rw [hx8, show yn = 0 by omega]; rfl) c62
          | succ n ih =>
            intro xn yn x7 x8 hyn hxb hyb hg hx7 hx8
            refine gz_iload hC dX8_chance_60 rfl ?_
            refine gz_if_eq hC 83 dX8_chance_62 (by decide) (fun c62 => ?_) (fun c62 => ?_)
            · have hyz : yn = 0 := by rcases Nat.eq_zero_or_pos yn with q | q; exact q; exact absurd c62 (by rw [hx8]; exact nI_ne0 q (by omega))
              have hg1 : xn = Nat.gcd (tb_ab d0 d1 F w pl hh bb) (tb_be d0 d1 F pl) := by rw [← hg, hyz, Nat.gcd_zero_right]
              have hg0 : 0 < xn := by rw [hg1]; exact a3
              have hg2 : xn ≤ 8 := by rw [hg1]; exact Nat.le_trans a4 a2.2
              refine gz_iload hC dX8_chance_83 rfl ?_
              refine gz_if_ne hC 96 dX8_chance_85 (by decide) (fun c85 => ?_) (fun c85 => ?_)
              · have hwz : ¬ ww = 0 := fun q => c85 (by rw [hw0, q]; rfl)
                refine gz_iload hC dX8_chance_96 rfl ?_
                refine gz_iload hC dX8_chance_98 rfl ?_
                refine gz_idiv hC dX8_chance_100 (by rw [hx7]; exact nI_ne0 hg0 (by omega)) ?_
                exact gz_iret hC dX8_chance_101 ⟨gz_v (by unfold sp_chance; rw [q1, q2, q3, hx7]; rw [show p0.toNatClampNeg = pl by rw [hp0, nI_clamp (by omega)], show h0.toNatClampNeg = hh by rw [hh0, nI_clamp (by omega)], show b0.toNatClampNeg = bb by rw [hb0, nI_clamp (by omega)], show w0.toNatClampNeg = ww by rw [hw0, nI_clamp (by omega)], pk_div (by omega) hg0 (by omega)]; show _ = nI ((if ww = 0 then _ else _) / _); first | (rw [if_pos hwz, hg1]) | (rw [if_neg hwz, hg1])), rfl⟩
              · have hwz : ww = 0 := by rcases (show ww = 0 ∨ ww = 1 by omega) with q | q; exact q; exact absurd c85 (by rw [hw0, q]; decide)
                refine gz_iload hC dX8_chance_88 rfl ?_
                refine gz_iload hC dX8_chance_90 rfl ?_
                refine gz_idiv hC dX8_chance_92 (by rw [hx7]; exact nI_ne0 hg0 (by omega)) ?_
                refine gz_goto hC 101 dX8_chance_93 (by decide) ?_
                exact gz_iret hC dX8_chance_101 ⟨gz_v (by unfold sp_chance; rw [q1, q2, q3, hx7]; rw [show p0.toNatClampNeg = pl by rw [hp0, nI_clamp (by omega)], show h0.toNatClampNeg = hh by rw [hh0, nI_clamp (by omega)], show b0.toNatClampNeg = bb by rw [hb0, nI_clamp (by omega)], show w0.toNatClampNeg = ww by rw [hw0, nI_clamp (by omega)], pk_div (by omega) hg0 (by omega)]; show _ = nI ((if ww = 0 then _ else _) / _); first | (rw [if_pos hwz, hg1]) | (rw [if_neg hwz, hg1])), rfl⟩
            · have hyp : 0 < yn := by rcases Nat.eq_zero_or_pos yn with q | q; exact absurd (by rw [hx8, q]; rfl) c62; exact q
              have hml := Nat.mod_lt xn hyp
              refine gz_iload hC dX8_chance_65 rfl ?_
              refine gz_iload hC dX8_chance_67 rfl ?_
              refine gz_irem hC dX8_chance_69 (by rw [hx8]; exact nI_ne0 hyp (by omega)) ?_
              refine gz_istore hC dX8_chance_70 (by decide) ?_
              refine gz_iload hC dX8_chance_72 rfl ?_
              refine gz_istore hC dX8_chance_74 (by decide) ?_
              refine gz_iload hC dX8_chance_76 rfl ?_
              refine gz_istore hC dX8_chance_78 (by decide) ?_
              refine gz_goto hC 60 dX8_chance_80 (by decide) ?_
              refine gz_lw [(0, .ref (ad 0)), (1, .int p0), (2, .int h0), (3, .int b0), (4, .int w0), (5, .int (nI (tb_ab d0 d1 F w pl hh bb))), (6, .int (nI (tb_be d0 d1 F pl))), (7, .int x8), (8, .int _)] ⟨rfl, rfl, rfl, rfl, rfl, rfl, rfl, rfl, rfl, trivial⟩ ?_
              exact ih yn (xn % yn) _ _ (by omega) (by omega) (by omega) (by rw [← hg, Nat.gcd_comm xn yn, Nat.gcd_rec yn xn, Nat.gcd_comm]) hx8 (by rw [hx7, hx8]; exact pk_rem (by omega) hyp (by omega))
        exact gz_lw [(0, .ref (ad 0)), (1, .int p0), (2, .int h0), (3, .int b0), (4, .int w0), (5, .int (nI (tb_ab d0 d1 F w pl hh bb))), (6, .int (nI (tb_be d0 d1 F pl))), (7, .int (nI (tb_ab d0 d1 F w pl hh bb))), (8, .int (nI (tb_be d0 d1 F pl)))] ⟨rfl, rfl, rfl, rfl, rfl, rfl, rfl, rfl, rfl, trivial⟩ (lp (tb_be d0 d1 F pl) (tb_ab d0 d1 F w pl hh bb) (tb_be d0 d1 F pl) _ _ (Nat.le_refl _) (by omega) (by omega) rfl rfl rfl)
      · have q3 := gz_b0 c24
        refine gz_bipush hC (-2) dX8_chance_27 (by decide) ?_
        exact gz_iret hC dX8_chance_29 ⟨gz_v (by unfold sp_chance; first | (rw [q1, q2, q3]; rfl) | (rw [q1, q2]; rfl) | (rw [q1]; rfl)), rfl⟩
  -- places not laid: [62, 65, 67, 69, 70, 72, 74, 76, 78, 80, 83, 85, 88, 90, 92, 93, 96, 98, 100, 101]
set_option maxHeartbeats 4000000 in
set_option maxRecDepth 100000 in
theorem ct_X8_surest (hJ : gz_inj ad lm_lay) (I : Nat → Nat → Int32) (G : Nat → Nat → UInt64) (d0 d1 F : Nat) (w : Bool) (hO : cf_ok d0 d1 F) (hX : xm_tab d0 d1 F w I) (p0 h0 a0 b0 : Int32) : gz_Ct l D ad cy lm_lay yX8_surest cX8_surest 7 (some .int) 3 [.ref (ad 0), .int p0, .int h0, .int a0, .int b0] (I, G) (fun v M1 => v = some (.int (sp_surest d0 d1 F w p0 h0 a0 b0)) ∧ M1 = (I, G)) := by
  refine gz_met (by decide +kernel) hJ (Nat.le_of_ble_eq_true rfl) ?_
  intro p e s m args below meth c hC
  refine gz_aload_n hC dX8_surest_0 rfl ?_
  refine gz_iload_n hC dX8_surest_1 rfl ?_
  refine gz_iload_n hC dX8_surest_2 rfl ?_
  refine gz_callV2 hC dX8_surest_3 ml_X8_97 rfl rfl (by decide) (by decide) (Nat.le_of_ble_eq_true rfl) (ct_X8_isHand hJ _ _ d0 d1 F w hO hX _ _) (fun v3 M3 hp3 => ?_)
  obtain ⟨rfl, rfl⟩ := hp3
  refine gz_if_eq hC 30 dX8_surest_6 (by decide) (fun c6 => ?_) (fun c6 => ?_)
  · have q1 := gz_b0 c6
    refine gz_bipush hC (-2) dX8_surest_30 (by decide) ?_
    exact gz_iret hC dX8_surest_32 ⟨gz_v (by unfold sp_surest; first | (rw [q1, q2, q3]; rfl) | (rw [q1, q2]; rfl) | (rw [q1]; rfl)), rfl⟩
  · have q1 := gz_b1 c6
    obtain ⟨pl, hh, hpl1, hk1, hp0, hh0⟩ := sp_hd_t hO q1
    have T1 := tb_facts (cf_okP hO hpl1)
    refine gz_iload_n hC dX8_surest_9 rfl ?_
    refine gz_iconst hC (1) dX8_surest_10 (by decide) ?_
    refine gz_bipush hC (100) dX8_surest_11 (by decide) ?_
    refine gz_callS3 hC dX8_surest_13 ml_X8_82 (by decide) (by decide) (Nat.le_of_ble_eq_true rfl) (ct_X8_in hJ _ _ _ _ _) (fun v13 M13 hp13 => ?_)
    obtain ⟨rfl, rfl⟩ := hp13
    refine gz_if_eq hC 30 dX8_surest_16 (by decide) (fun c16 => ?_) (fun c16 => ?_)
    · have q2 := gz_b0 c16
      refine gz_bipush hC (-2) dX8_surest_30 (by decide) ?_
      exact gz_iret hC dX8_surest_32 ⟨gz_v (by unfold sp_surest; first | (rw [q1, q2, q3]; rfl) | (rw [q1, q2]; rfl) | (rw [q1]; rfl)), rfl⟩
    · have q2 := gz_b1 c16
      obtain ⟨aa, haa1, haa2, ha0⟩ := gz_in_m (a := 1) (b := 100) (by decide) (by decide) q2
      refine gz_iload hC dX8_surest_19 rfl ?_
      refine gz_iconst hC (1) dX8_surest_21 (by decide) ?_
      refine gz_bipush hC (100) dX8_surest_22 (by decide) ?_
      refine gz_callS3 hC dX8_surest_24 ml_X8_82 (by decide) (by decide) (Nat.le_of_ble_eq_true rfl) (ct_X8_in hJ _ _ _ _ _) (fun v24 M24 hp24 => ?_)
      obtain ⟨rfl, rfl⟩ := hp24
      refine gz_if_ne hC 33 dX8_surest_27 (by decide) (fun c27 => ?_) (fun c27 => ?_)
      · have q3 := gz_b1 c27
        obtain ⟨bb, hbb1, hbb2, hb0⟩ := gz_in_m (a := 1) (b := 100) (by decide) (by decide) q3
        refine gz_aload_n hC dX8_surest_33 rfl ?_
        refine gz_aload_n hC dX8_surest_34 rfl ?_
        refine gz_iconst hC (1) dX8_surest_35 (by decide) ?_
        refine gz_iload_n hC dX8_surest_36 rfl ?_
        refine gz_isub hC dX8_surest_37 ?_
        refine gz_callV1 hC dX8_surest_38 ml_X8_67 rfl rfl (by decide) (by decide) (Nat.le_of_ble_eq_true rfl) (ct_X8_dice hJ _ _ d0 d1 F w hX.1 (1 - pl) (by omega) _ (by rw [hp0, gz_n1, pk_sub (by omega)])) (fun v38 M38 hp38 => ?_)
        obtain ⟨rfl, rfl⟩ := hp38
        refine gz_callV1 hC dX8_surest_41 ml_X8_114 rfl rfl (by decide) (by decide) (Nat.le_of_ble_eq_true rfl) (ct_X8_power hJ _ _ d0 d1 F w hX.1 (tb_d d0 d1 (1 - pl)) (by have := (tb_facts (cf_okP hO (show 1 - pl < 2 by omega))).2.2.2.2.2.1; omega) _ rfl) (fun v41 M41 hp41 => ?_)
        obtain ⟨rfl, rfl⟩ := hp41
        refine gz_istore hC dX8_surest_44 (by decide) ?_
        refine gz_aload_n hC dX8_surest_46 rfl ?_
        refine gz_callV0 hC dX8_surest_47 ml_X8_89 rfl rfl (by decide) (by decide) (Nat.le_of_ble_eq_true rfl) (ct_X8_most hJ _ _ d0 d1 F w hX.1) (fun v47 M47 hp47 => ?_)
        obtain ⟨rfl, rfl⟩ := hp47
        refine gz_iconst hC (1) dX8_surest_50 (by decide) ?_
        refine gz_isub hC dX8_surest_51 ?_
        refine gz_istore hC dX8_surest_52 (by decide) ?_
        have Bd := (cf_bids hO)
        have a2 := tb_be_in hO hpl1
        have hS : sp_surest d0 d1 F w p0 h0 a0 b0 = tb_su (fun k => decide (aa * tb_be d0 d1 F pl ≤ tb_ab d0 d1 F w pl hh k * bb)) ((d0 + d1) * F) := by
          unfold sp_surest
          rw [q1, q2, q3, hp0, hh0, ha0, hb0, nI_clamp (by omega), nI_clamp (by omega), nI_clamp (by omega), nI_clamp (by omega)]
          rfl
        have lp : ∀ (j : Nat) (hj : j ≤ (d0 + d1) * F) (z : Int32) (h1 : j = 0 → z = -1) (h2 : ∀ i, j = i + 1 → z = nI i) (hst : tb_su (fun k => decide (aa * tb_be d0 d1 F pl ≤ tb_ab d0 d1 F w pl hh k * bb)) ((d0 + d1) * F) = tb_su (fun k => decide (aa * tb_be d0 d1 F pl ≤ tb_ab d0 d1 F w pl hh k * bb)) j), gz_W p l e (gz_rm 3) s m args below meth c D ad cy lm_lay 7 (MQ below (gz_Q D ad cy lm_lay (fun v M1 => v = some (.int (sp_surest d0 d1 F w p0 h0 a0 b0)) ∧ M1 = (I, G))) args s 0 0 (gz_A ad lm_lay)) (I, G) 54 [(0, .ref (ad 0)), (1, .int p0), (2, .int h0), (3, .int a0), (4, .int b0), (5, .int (nI (tb_be d0 d1 F pl))), (6, .int z)] [] := by
          intro j
          induction j with
          | zero =>
            intro hj z h1 h2 hst
            refine gz_iload hC dX8_surest_54 rfl ?_
            refine gz_if_lt hC 86 dX8_surest_56 (by decide) (fun c56 => ?_) (fun c56 => ?_)
            · refine gz_iconst hC (-1) dX8_surest_86 (by decide) ?_
              exact gz_iret hC dX8_surest_87 ⟨gz_v (by rw [hS, hst]; rfl), rfl⟩
            · exact absurd (by rw [h1 rfl]; decide) c56
          | succ i ih =>
            intro hj z h1 h2 hst
            have hz := h2 i rfl
            refine gz_iload hC dX8_surest_54 rfl ?_
            refine gz_if_lt hC 86 dX8_surest_56 (by decide) (fun c56 => ?_) (fun c56 => ?_)
            · exact absurd c56 (by rw [hz]; exact nI_pos (by omega))
            · refine gz_aload_n hC dX8_surest_59 rfl ?_
              refine gz_iload_n hC dX8_surest_60 rfl ?_
              refine gz_iload_n hC dX8_surest_61 rfl ?_
              refine gz_iload hC dX8_surest_62 rfl ?_
              refine gz_callV3 hC dX8_surest_64 ml_X8_111 rfl rfl (by decide) (by decide) (Nat.le_of_ble_eq_true rfl) (ct_X8_throwsFor hJ _ _ d0 d1 F w hO hX pl hh i hpl1 hk1 (by omega) _ _ _ hp0 hh0 hz) (fun v64 M64 hp64 => ?_)
              obtain ⟨rfl, rfl⟩ := hp64
              refine gz_iload hC dX8_surest_67 rfl ?_
              refine gz_imul hC dX8_surest_69 ?_
              refine gz_iload_n hC dX8_surest_70 rfl ?_
              refine gz_iload hC dX8_surest_71 rfl ?_
              refine gz_imul hC dX8_surest_73 ?_
              have a1 := tb_ab_le hO w pl hh i hpl1
              have m1 : tb_ab d0 d1 F w pl hh i * bb ≤ 24 * 100 := Nat.mul_le_mul a1 hbb2
              have m2 : aa * tb_be d0 d1 F pl ≤ 100 * 8 := Nat.mul_le_mul haa2 a2.2
              rw [ha0, hb0, pk_mul, pk_mul]
              refine gz_icmp_lt hC 80 dX8_surest_74 (by decide) (fun c74 => ?_) (fun c74 => ?_)
              · have c83 : ¬ aa * tb_be d0 d1 F pl ≤ tb_ab d0 d1 F w pl hh i * bb := fun q => nI_nlt q (by omega) c74
                refine gz_iinc hC (-1) dX8_surest_80 rfl (by decide) (by decide) ?_
                refine gz_goto hC 54 dX8_surest_83 (by decide) ?_
                refine gz_lw [(0, .ref (ad 0)), (1, .int p0), (2, .int h0), (3, .int (nI aa)), (4, .int (nI bb)), (5, .int (nI (tb_be d0 d1 F pl))), (6, .int (z + (-1)))] ⟨rfl, rfl, rfl, by rw [← ha0]; rfl, by rw [← hb0]; rfl, rfl, rfl, trivial⟩ ?_
                rw [← ha0, ← hb0]
                exact ih (by omega) (z + (-1)) (fun h0 => by subst h0; rw [hz]; rfl) (fun q hq => by subst hq; rw [hz]; exact pk_m1 q) (by rw [hst]; show cond (decide _) _ _ = _; rw [decide_eq_false c83]; rfl)
              · have c83 : aa * tb_be d0 d1 F pl ≤ tb_ab d0 d1 F w pl hh i * bb := by rcases Nat.lt_or_ge (tb_ab d0 d1 F w pl hh i * bb) (aa * tb_be d0 d1 F pl) with q | q; exact absurd (nI_lt q (by omega)) c74; exact q
                refine gz_iload hC dX8_surest_77 rfl ?_
                exact gz_iret hC dX8_surest_79 ⟨gz_v (by rw [← ha0, ← hb0, hS, hst, hz]; show _ = cond (decide _) _ _; rw [decide_eq_true c83]; rfl), rfl⟩
        refine gz_lw [(0, .ref (ad 0)), (1, .int p0), (2, .int h0), (3, .int a0), (4, .int b0), (5, .int (nI (tb_be d0 d1 F pl))), (6, .int (nI ((d0 + d1) * F) - 1))] ⟨rfl, rfl, rfl, rfl, rfl, rfl, rfl, trivial⟩ ?_
        exact lp ((d0 + d1) * F) (Nat.le_refl _) _ (fun q => by omega) (fun i hi => by rw [hi]; exact nI_pred i) rfl
      · have q3 := gz_b0 c27
        refine gz_bipush hC (-2) dX8_surest_30 (by decide) ?_
        exact gz_iret hC dX8_surest_32 ⟨gz_v (by unfold sp_surest; first | (rw [q1, q2, q3]; rfl) | (rw [q1, q2]; rfl) | (rw [q1]; rfl)), rfl⟩
  -- places not laid: [56, 59, 60, 61, 62, 64, 67, 69, 70, 71, 73, 74, 77, 79, 80, 83, 86, 87]
end CT
