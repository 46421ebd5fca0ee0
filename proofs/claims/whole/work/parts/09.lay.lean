/-! the table laid anew: all bids judged -/
theorem xi_cup_fr {k d F : Nat} {I J : Nat → Nat → Int32} (h : xi_cup k d F I) (h0 : J k = I k) (h1 : J (k + 1) = I (k + 1)) (h2 : J (k + 2) = I (k + 2)) : xi_cup k d F J := by
  unfold xi_cup
  rw [h0, h1, h2]
  exact h
section CT
variable {l : Launch} {D : va_G} {ad : Nat → Nat} {cy : Nat → ClassId}
set_option maxHeartbeats 4000000 in
set_option maxRecDepth 100000 in
theorem ct_X6_judgeBids (hJ : gz_inj ad lx_lay) (I : Nat → Nat → Int32) (G : Nat → Nat → UInt64) (d0 d1 F : Nat) (w : Bool) (hw : I 1 5 = gz_b w) (hF : I 1 3 = nI F) (hbd : I 1 4 = nI ((d0 + d1) * F)) (hc0 : xi_cup 3 d0 F I) (hc1 : xi_cup 7 d1 F I) (hO : cf_ok d0 d1 F) : gz_Ct l D ad cy lx_lay yX6_judgeBids cX6_judgeBids 4 none 4 [.ref (ad 1)] (I, G) (fun v M1 => ∃ I1, v = none ∧ M1 = (I1, G) ∧ (∀ o, o ≠ 2 → I1 o = I o) ∧ ∀ g, g < tb_n d0 F → ∀ h, h < tb_n d1 F → ∀ b, b < (d0 + d1) * F → I1 2 ((g * 4 + h) * 8 + b) = gz_b (tb_t d0 d1 F w g h b)) := by
  obtain ⟨T1, T2, T3, T4, T5, T6, T7, T8, T9⟩ := tb_facts hO.1
  obtain ⟨U1, U2, U3, U4, U5, U6, U7, U8, U9⟩ := tb_facts hO.2.1
  have hO3 := hO.2.2
  refine gz_met (by decide +kernel) hJ (Nat.le_of_ble_eq_true rfl) ?_
  intro p e s m args below meth c hC
  refine gz_iconst hC (0) dX6_judgeBids_0 (by decide) ?_
  refine gz_istore_n hC dX6_judgeBids_1 (by decide) ?_
  have lp1 : ∀ (n1 g : Nat) (J : Nat → Nat → Int32) (x1 : Int32) (hi1 : g + n1 = tb_n d0 F) (hx1 : x1 = nI g) (hJ2 : ∀ o, o ≠ 2 → J o = I o) (hA : ∀ g2, g2 < g → ∀ h2, h2 < tb_n d1 F → ∀ b2, b2 < (d0 + d1) * F → J 2 ((g2 * 4 + h2) * 8 + b2) = gz_b (tb_t d0 d1 F w g2 h2 b2)), gz_W p l e (gz_rm 4) s m args below meth c D ad cy lx_lay 4 (MQ below (gz_Q D ad cy lx_lay (fun v M1 => ∃ I1, v = none ∧ M1 = (I1, G) ∧ (∀ o, o ≠ 2 → I1 o = I o) ∧ ∀ g, g < tb_n d0 F → ∀ h, h < tb_n d1 F → ∀ b, b < (d0 + d1) * F → I1 2 ((g * 4 + h) * 8 + b) = gz_b (tb_t d0 d1 F w g h b))) args s 0 0 (gz_A ad lx_lay)) (J, G) 2 [(0, .ref (ad 1)), (1, .int x1)] [] := by
    intro n1
    induction n1 with
    | zero =>
      intro g J x1 hi1 hx1 hJ2 hA
      refine gz_iload_n hC dX6_judgeBids_2 rfl ?_
      refine gz_aload_n hC dX6_judgeBids_3 rfl ?_
      refine gz_getR (j := 0) hC dX6_judgeBids_4 cf_X6 fl_X6_12 rfl rfl (by decide) ?_
      refine gz_getIN (j := 5) hC dX6_judgeBids_7 cf_X1 fl_X6_43 rfl rfl (by decide) ?_
      refine gz_icmp_ge hC 61 dX6_judgeBids_10 (by decide) (fun c10 => ?_) (fun c10 => ?_)
      · exact gz_vret hC dX6_judgeBids_61 ⟨J, rfl, rfl, hJ2, fun g2 hg2 => hA g2 (by omega)⟩
      · exact absurd (gz_ile (by rw [hJ2 3 (by decide)]; exact hc0.2.2.1) hx1 (by omega) (by omega)) c10
    | succ n1 ih1 =>
      intro g J x1 hi1 hx1 hJ2 hA
      refine gz_iload_n hC dX6_judgeBids_2 rfl ?_
      refine gz_aload_n hC dX6_judgeBids_3 rfl ?_
      refine gz_getR (j := 0) hC dX6_judgeBids_4 cf_X6 fl_X6_12 rfl rfl (by decide) ?_
      refine gz_getIN (j := 5) hC dX6_judgeBids_7 cf_X1 fl_X6_43 rfl rfl (by decide) ?_
      refine gz_icmp_ge hC 61 dX6_judgeBids_10 (by decide) (fun c10 => ?_) (fun c10 => ?_)
      · exact absurd c10 (gz_inle (by rw [hJ2 3 (by decide)]; exact hc0.2.2.1) hx1 (by omega) (by omega))
      · refine gz_iconst hC (0) dX6_judgeBids_13 (by decide) ?_
        refine gz_istore_n hC dX6_judgeBids_14 (by decide) ?_
        have lp2 : ∀ (n2 h : Nat) (J : Nat → Nat → Int32) (x2 : Int32) (hi2 : h + n2 = tb_n d1 F) (hx2 : x2 = nI h) (hJ2 : ∀ o, o ≠ 2 → J o = I o) (hA : ∀ g2, g2 < g → ∀ h2, h2 < tb_n d1 F → ∀ b2, b2 < (d0 + d1) * F → J 2 ((g2 * 4 + h2) * 8 + b2) = gz_b (tb_t d0 d1 F w g2 h2 b2)) (hB : ∀ h2, h2 < h → ∀ b2, b2 < (d0 + d1) * F → J 2 ((g * 4 + h2) * 8 + b2) = gz_b (tb_t d0 d1 F w g h2 b2)), gz_W p l e (gz_rm 4) s m args below meth c D ad cy lx_lay 4 (MQ below (gz_Q D ad cy lx_lay (fun v M1 => ∃ I1, v = none ∧ M1 = (I1, G) ∧ (∀ o, o ≠ 2 → I1 o = I o) ∧ ∀ g, g < tb_n d0 F → ∀ h, h < tb_n d1 F → ∀ b, b < (d0 + d1) * F → I1 2 ((g * 4 + h) * 8 + b) = gz_b (tb_t d0 d1 F w g h b))) args s 0 0 (gz_A ad lx_lay)) (J, G) 15 [(0, .ref (ad 1)), (1, .int x1), (2, .int x2)] [] := by
          intro n2
          induction n2 with
          | zero =>
            intro h J x2 hi2 hx2 hJ2 hA hB
            refine gz_iload_n hC dX6_judgeBids_15 rfl ?_
            refine gz_aload_n hC dX6_judgeBids_16 rfl ?_
            refine gz_getR (j := 1) hC dX6_judgeBids_17 cf_X6 fl_X6_18 rfl rfl (by decide) ?_
            refine gz_getIN (j := 5) hC dX6_judgeBids_20 cf_X1 fl_X6_43 rfl rfl (by decide) ?_
            refine gz_icmp_ge hC 55 dX6_judgeBids_23 (by decide) (fun c23 => ?_) (fun c23 => ?_)
            · refine gz_iinc hC (1) dX6_judgeBids_55 rfl (by decide) (by decide) ?_
              refine gz_goto hC 2 dX6_judgeBids_58 (by decide) ?_
              refine gz_lw [(0, .ref (ad 1)), (1, .int (x1 + 1))] ⟨rfl, rfl, trivial⟩ ?_
              exact ih1 (g + 1) J _ (by omega) (gz_i1 hx1) hJ2 (fun g2 hg2 h2 hh2 b2 hb2 => by
                by_cases e : g2 = g
                · subst e; exact hB h2 (by omega) b2 hb2
                · exact hA g2 (by omega) h2 hh2 b2 hb2)
            · exact absurd (gz_ile (by rw [hJ2 7 (by decide)]; exact hc1.2.2.1) hx2 (by omega) (by omega)) c23
          | succ n2 ih2 =>
            intro h J x2 hi2 hx2 hJ2 hA hB
            refine gz_iload_n hC dX6_judgeBids_15 rfl ?_
            refine gz_aload_n hC dX6_judgeBids_16 rfl ?_
            refine gz_getR (j := 1) hC dX6_judgeBids_17 cf_X6 fl_X6_18 rfl rfl (by decide) ?_
            refine gz_getIN (j := 5) hC dX6_judgeBids_20 cf_X1 fl_X6_43 rfl rfl (by decide) ?_
            refine gz_icmp_ge hC 55 dX6_judgeBids_23 (by decide) (fun c23 => ?_) (fun c23 => ?_)
            · exact absurd c23 (gz_inle (by rw [hJ2 7 (by decide)]; exact hc1.2.2.1) hx2 (by omega) (by omega))
            · refine gz_iconst hC (0) dX6_judgeBids_26 (by decide) ?_
              refine gz_istore_n hC dX6_judgeBids_27 (by decide) ?_
              have lp3 : ∀ (n3 b : Nat) (J : Nat → Nat → Int32) (x3 : Int32) (hi3 : b + n3 = (d0 + d1) * F) (hx3 : x3 = nI b) (hJ2 : ∀ o, o ≠ 2 → J o = I o) (hA : ∀ g2, g2 < g → ∀ h2, h2 < tb_n d1 F → ∀ b2, b2 < (d0 + d1) * F → J 2 ((g2 * 4 + h2) * 8 + b2) = gz_b (tb_t d0 d1 F w g2 h2 b2)) (hB : ∀ h2, h2 < h → ∀ b2, b2 < (d0 + d1) * F → J 2 ((g * 4 + h2) * 8 + b2) = gz_b (tb_t d0 d1 F w g h2 b2)) (hE : ∀ b2, b2 < b → J 2 ((g * 4 + h) * 8 + b2) = gz_b (tb_t d0 d1 F w g h b2)), gz_W p l e (gz_rm 4) s m args below meth c D ad cy lx_lay 4 (MQ below (gz_Q D ad cy lx_lay (fun v M1 => ∃ I1, v = none ∧ M1 = (I1, G) ∧ (∀ o, o ≠ 2 → I1 o = I o) ∧ ∀ g, g < tb_n d0 F → ∀ h, h < tb_n d1 F → ∀ b, b < (d0 + d1) * F → I1 2 ((g * 4 + h) * 8 + b) = gz_b (tb_t d0 d1 F w g h b))) args s 0 0 (gz_A ad lx_lay)) (J, G) 28 [(0, .ref (ad 1)), (1, .int x1), (2, .int x2), (3, .int x3)] [] := by
                intro n3
                induction n3 with
                | zero =>
                  intro b J x3 hi3 hx3 hJ2 hA hB hE
                  refine gz_iload_n hC dX6_judgeBids_28 rfl ?_
                  refine gz_aload_n hC dX6_judgeBids_29 rfl ?_
                  refine gz_getI (j := 4) hC dX6_judgeBids_30 cf_X6 fl_X6_33 rfl rfl (by decide) ?_
                  refine gz_icmp_ge hC 49 dX6_judgeBids_33 (by decide) (fun c33 => ?_) (fun c33 => ?_)
                  · refine gz_iinc hC (1) dX6_judgeBids_49 rfl (by decide) (by decide) ?_
                    refine gz_goto hC 15 dX6_judgeBids_52 (by decide) ?_
                    refine gz_lw [(0, .ref (ad 1)), (1, .int x1), (2, .int (x2 + 1))] ⟨rfl, rfl, rfl, trivial⟩ ?_
                    exact ih2 (h + 1) J _ (by omega) (gz_i1 hx2) hJ2 hA (fun h2 hh2 b2 hb2 => by
                      by_cases e : h2 = h
                      · subst e; exact hE b2 (by omega)
                      · exact hB h2 (by omega) b2 hb2)
                  · exact absurd (gz_ile (by rw [hJ2 1 (by decide)]; exact hbd) hx3 (by omega) (by omega)) c33
                | succ n3 ih3 =>
                  intro b J x3 hi3 hx3 hJ2 hA hB hE
                  refine gz_iload_n hC dX6_judgeBids_28 rfl ?_
                  refine gz_aload_n hC dX6_judgeBids_29 rfl ?_
                  refine gz_getI (j := 4) hC dX6_judgeBids_30 cf_X6 fl_X6_33 rfl rfl (by decide) ?_
                  refine gz_icmp_ge hC 49 dX6_judgeBids_33 (by decide) (fun c33 => ?_) (fun c33 => ?_)
                  · exact absurd c33 (gz_inle (by rw [hJ2 1 (by decide)]; exact hbd) hx3 (by omega) (by omega))
                  · refine gz_aload_n hC dX6_judgeBids_36 rfl ?_
                    refine gz_iload_n hC dX6_judgeBids_37 rfl ?_
                    refine gz_iload_n hC dX6_judgeBids_38 rfl ?_
                    refine gz_iload_n hC dX6_judgeBids_39 rfl ?_
                    refine gz_callV3 hC dX6_judgeBids_40 ml_X6_46 rfl rfl (by decide) (by decide) (Nat.le_of_ble_eq_true rfl) (ct_X6_judge hJ _ _ d0 d1 F w (by rw [hJ2 1 (by decide)]; exact hw) (by rw [hJ2 1 (by decide)]; exact hF) (xi_cup_fr hc0 (hJ2 3 (by decide)) (hJ2 4 (by decide)) (hJ2 5 (by decide))) (xi_cup_fr hc1 (hJ2 7 (by decide)) (hJ2 8 (by decide)) (hJ2 9 (by decide))) hO g h b _ _ _ hx1 hx2 hx3 (by omega) (by omega) (by omega)) (fun v40 M40 hp40 => ?_)
                    obtain ⟨rfl, rfl⟩ := hp40
                    refine gz_iinc hC (1) dX6_judgeBids_43 rfl (by decide) (by decide) ?_
                    refine gz_goto hC 28 dX6_judgeBids_46 (by decide) ?_
                    refine gz_lw [(0, .ref (ad 1)), (1, .int x1), (2, .int x2), (3, .int (x3 + 1))] ⟨rfl, rfl, rfl, rfl, trivial⟩ ?_
                    exact ih3 (b + 1) _ _ (by omega) (gz_i1 hx3) (fun o ho => (gz_up_ne ho).trans (hJ2 o ho)) (fun g2 hg2 h2 hh2 b2 hb2 => (gz_up_oth (by omega)).trans (hA g2 hg2 h2 hh2 b2 hb2)) (fun h2 hh2 b2 hb2 => (gz_up_oth (by omega)).trans (hB h2 hh2 b2 hb2)) (fun b2 hb2 => by
                      by_cases e : b2 = b
                      · subst e; exact gz_up_self
                      · exact (gz_up_oth (by omega)).trans (hE b2 (by omega)))
              exact gz_lw [(0, .ref (ad 1)), (1, .int x1), (2, .int x2), (3, .int 0)] ⟨rfl, rfl, rfl, rfl, trivial⟩ (lp3 ((d0 + d1) * F) 0 J 0 (by omega) rfl hJ2 hA hB (fun b2 hb2 => absurd hb2 (Nat.not_lt_zero b2)))
        exact gz_lw [(0, .ref (ad 1)), (1, .int x1), (2, .int 0)] ⟨rfl, rfl, rfl, trivial⟩ (lp2 (tb_n d1 F) 0 J 0 (by omega) rfl hJ2 hA (fun h2 hh2 => absurd hh2 (Nat.not_lt_zero h2)))
  exact gz_lw [(0, .ref (ad 1)), (1, .int 0)] ⟨rfl, rfl, trivial⟩ (lp1 (tb_n d0 F) 0 I 0 (by omega) rfl (fun _ _ => rfl) (fun g2 hg2 => absurd hg2 (Nat.not_lt_zero g2)))
  -- places not laid: [3, 4, 7, 10, 13, 14, 15, 16, 17, 20, 23, 26, 27, 28, 29, 30, 33, 36, 37, 38, 39, 40, 43, 46, 49, 52, 55, 58, 61]
set_option maxHeartbeats 4000000 in
set_option maxRecDepth 100000 in
theorem ct_X6_lay (hJ : gz_inj ad lx_lay) (I : Nat → Nat → Int32) (G : Nat → Nat → UInt64) (d0 d1 F : Nat) (w : Bool) (x1 x2 x3 x4 : Int32) (hx1 : x1 = nI d0) (hx2 : x2 = nI d1) (hx3 : x3 = nI F) (hx4 : x4 = gz_b w) (hO : cf_ok d0 d1 F) : gz_Ct l D ad cy lx_lay yX6_lay cX6_lay 5 none 5 [.ref (ad 1), .int x1, .int x2, .int x3, .int x4] (I, G) (fun v M1 => ∃ I1, v = none ∧ M1 = (I1, G) ∧ xi_tab d0 d1 F w I1 ∧ ∀ o, o = 0 ∨ 10 < o → I1 o = I o) := by
  refine gz_met (by decide +kernel) hJ (Nat.le_of_ble_eq_true rfl) ?_
  intro p e s m args below meth c hC
  refine gz_aload_n hC dX6_lay_0 rfl ?_
  refine gz_iload_n hC dX6_lay_1 rfl ?_
  refine gz_put (j := 3) hC dX6_lay_2 cf_X6 fl_X6_25 rfl rfl (by decide) rfl rfl rfl ?_
  refine gz_aload_n hC dX6_lay_5 rfl ?_
  refine gz_iload hC dX6_lay_6 rfl ?_
  refine gz_put (j := 5) hC dX6_lay_8 cf_X6 fl_X6_29 rfl rfl (by decide) rfl (by rw [hx4]; exact gz_bn w) (by rw [hx4]; exact gz_bf w) ?_
  refine gz_aload_n hC dX6_lay_11 rfl ?_
  refine gz_iload_n hC dX6_lay_12 rfl ?_
  refine gz_iload_n hC dX6_lay_13 rfl ?_
  refine gz_iadd hC dX6_lay_14 ?_
  refine gz_iload_n hC dX6_lay_15 rfl ?_
  refine gz_imul hC dX6_lay_16 ?_
  rw [hx1, hx2, hx3, nI_add, pk_mul]
  refine gz_put (j := 4) hC dX6_lay_17 cf_X6 fl_X6_33 rfl rfl (by decide) rfl rfl rfl ?_
  obtain ⟨J, hJd⟩ : ∃ J, J = gz_up (gz_up (gz_up I 1 3 (nI F)) 1 5 x4) 1 4 (nI ((d0 + d1) * F)) := ⟨_, rfl⟩
  rw [← hJd]
  have j3 : J 1 3 = nI F := by rw [hJd, gz_up_oth (by decide), gz_up_oth (by decide), gz_up_self]
  have j5 : J 1 5 = gz_b w := by rw [hJd, gz_up_oth (by decide), gz_up_self, hx4]
  have j4 : J 1 4 = nI ((d0 + d1) * F) := by rw [hJd, gz_up_self]
  have jo : ∀ o, o ≠ 1 → J o = I o := fun o ho => by rw [hJd, gz_up_ne ho, gz_up_ne ho, gz_up_ne ho]
  refine gz_aload_n hC dX6_lay_20 rfl ?_
  refine gz_getR (j := 0) hC dX6_lay_21 cf_X6 fl_X6_12 rfl rfl (by decide) ?_
  refine gz_iload_n hC dX6_lay_24 rfl ?_
  refine gz_iload_n hC dX6_lay_25 rfl ?_
  refine gz_callV2 hC dX6_lay_26 ml_X6_36 lx_cup3.1 rfl (by decide) (by decide) (Nat.le_of_ble_eq_true rfl) (ct_X1_fill hJ _ _ 3 lx_cup3 d0 F _ _ rfl rfl hO.1) (fun v26 M26 hp26 => ?_)
  obtain ⟨J1, rfl, rfl, k1, k2⟩ := hp26
  refine gz_aload_n hC dX6_lay_29 rfl ?_
  refine gz_getR (j := 1) hC dX6_lay_30 cf_X6 fl_X6_18 rfl rfl (by decide) ?_
  refine gz_iload_n hC dX6_lay_33 rfl ?_
  refine gz_iload_n hC dX6_lay_34 rfl ?_
  refine gz_callV2 hC dX6_lay_35 ml_X6_36 lx_cup7.1 rfl (by decide) (by decide) (Nat.le_of_ble_eq_true rfl) (ct_X1_fill hJ _ _ 7 lx_cup7 d1 F _ _ rfl rfl hO.2.1) (fun v35 M35 hp35 => ?_)
  obtain ⟨J2, rfl, rfl, k3, k4⟩ := hp35
  have e1 : J2 1 = J 1 := (k4 1 (by decide) (by decide) (by decide) (by decide)).trans (k2 1 (by decide) (by decide) (by decide) (by decide))
  have k5 := xi_cup_fr k1 (k4 3 (by decide) (by decide) (by decide) (by decide)) (k4 4 (by decide) (by decide) (by decide) (by decide)) (k4 5 (by decide) (by decide) (by decide) (by decide))
  refine gz_aload_n hC dX6_lay_38 rfl ?_
  refine gz_callV0 hC dX6_lay_39 ml_X6_40 rfl rfl (by decide) (by decide) (Nat.le_of_ble_eq_true rfl) (ct_X6_judgeBids hJ _ _ d0 d1 F w (by rw [e1]; exact j5) (by rw [e1]; exact j3) (by rw [e1]; exact j4) k5 k3 hO) (fun v39 M39 hp39 => ?_)
  obtain ⟨J3, rfl, rfl, k6, k7⟩ := hp39
  exact gz_vret hC dX6_lay_42 ⟨J3, rfl, rfl, ⟨by rw [k6 1 (by decide), e1]; exact j3, by rw [k6 1 (by decide), e1]; exact j4, by rw [k6 1 (by decide), e1]; exact j5, xi_cup_fr k5 (k6 3 (by decide)) (k6 4 (by decide)) (k6 5 (by decide)), xi_cup_fr k3 (k6 7 (by decide)) (k6 8 (by decide)) (k6 9 (by decide)), k7⟩, fun o ho => by rw [k6 o (by omega), k4 o (by omega) (by omega) (by omega) (by omega), k2 o (by omega) (by omega) (by omega) (by omega), jo o (by omega)]⟩
end CT
