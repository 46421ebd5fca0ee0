/-! the model: one node of the best answer -/
theorem fp_eq0 {K : Nat} {x : UInt64} (hx : fp_b K x) (hK : K ≤ 2047) : Op.cmpValue (FP.dcmp x 0) .l = 0 ↔ fp_pos x = false := by
  rw [fp_pos_iff hx hK, fp_cmp hx fp_b_0 hK (by decide)]
  have h := FP.Core.compare_lt_iff (x.toNat : Int) ((0 : UInt64).toNat : Int)
  have z : (0 : UInt64).toNat = 0 := rfl
  rw [z]
  constructor
  · intro q
    have e : x.toNat = 0 := by
      rcases Nat.eq_zero_or_pos x.toNat with e | e
      · exact e
      · have c9 : compare (x.toNat : Int) ((0 : Nat) : Int) = .gt := Int.compare_eq_gt.mpr (by omega)
        rw [c9] at q
        exact absurd q (by decide)
    exact decide_eq_false (fun k => k (UInt64.toNat_inj.mp e))
  · intro q
    have e : x = 0 := by
      by_cases e : x = 0
      · exact e
      · rw [decide_eq_true e] at q; cases q
    rw [e]
    rfl
section CT
variable {l : Launch} {D : va_G} {ad : Nat → Nat} {cy : Nat → ClassId}
set_option maxHeartbeats 4000000 in
set_option maxRecDepth 100000 in
theorem ct_X8_enter (hJ : gz_inj ad lm_lay) (I : Nat → Nat → Int32) (G : Nat → Nat → UInt64) (dp : Nat) (hdp : dp < 10) (x1 x2 : Int32) (hx1 : x1 = nI dp) : gz_Ct l D ad cy lm_lay yX8_enter cX8_enter 3 none 0 [.ref (ad 0), .int x1, .int x2] (I, G) (fun v M1 => v = none ∧ M1 = (gz_up (gz_up (gz_up (gz_up I 9 dp x2) 10 dp (-1)) 12 dp (-1)) 13 dp 0, gz_up G 11 dp 0)) := by
  refine gz_met (by decide +kernel) hJ (Nat.le_of_ble_eq_true rfl) ?_
  intro p e s m args below meth c hC
  refine gz_aload_n hC dX8_enter_0 rfl ?_
  refine gz_getR (j := 19) hC dX8_enter_1 cf_X8 fl_X8_45 rfl rfl (by decide) ?_
  refine gz_iload_n hC dX8_enter_4 rfl ?_
  refine gz_iload_n hC dX8_enter_5 rfl ?_
  refine gz_iast hC dX8_enter_6 rfl (by rw [hx1]; exact vp_in_nI (by omega) (by decide)) ?_
  refine gz_aload_n hC dX8_enter_7 rfl ?_
  refine gz_getR (j := 20) hC dX8_enter_8 cf_X8 fl_X8_48 rfl rfl (by decide) ?_
  refine gz_iload_n hC dX8_enter_11 rfl ?_
  refine gz_iconst hC (-1) dX8_enter_12 (by decide) ?_
  refine gz_iast hC dX8_enter_13 rfl (by rw [hx1]; exact vp_in_nI (by omega) (by decide)) ?_
  refine gz_aload_n hC dX8_enter_14 rfl ?_
  refine gz_getR (j := 21) hC dX8_enter_15 cf_X8 fl_X8_51 rfl rfl (by decide) ?_
  refine gz_iload_n hC dX8_enter_18 rfl ?_
  refine gz_dconst0 hC dX8_enter_19 ?_
  refine gz_dast hC dX8_enter_20 rfl (by rw [hx1]; exact vp_in_nI (by omega) (by decide)) ?_
  refine gz_aload_n hC dX8_enter_21 rfl ?_
  refine gz_getR (j := 22) hC dX8_enter_22 cf_X8 fl_X8_54 rfl rfl (by decide) ?_
  refine gz_iload_n hC dX8_enter_25 rfl ?_
  refine gz_iconst hC (-1) dX8_enter_26 (by decide) ?_
  refine gz_iast hC dX8_enter_27 rfl (by rw [hx1]; exact vp_in_nI (by omega) (by decide)) ?_
  refine gz_aload_n hC dX8_enter_28 rfl ?_
  refine gz_getR (j := 23) hC dX8_enter_29 cf_X8 fl_X8_57 rfl rfl (by decide) ?_
  refine gz_iload_n hC dX8_enter_32 rfl ?_
  refine gz_iconst hC (0) dX8_enter_33 (by decide) ?_
  refine gz_zast hC dX8_enter_34 rfl (by rw [hx1]; exact vp_in_nI (by omega) (by decide)) ?_
  exact gz_vret hC dX8_enter_35 ⟨rfl, by rw [show x1.toNatClampNeg = dp by rw [hx1, nI_clamp (by omega)]]; rfl⟩
set_option maxHeartbeats 4000000 in
set_option maxRecDepth 100000 in
theorem ct_X8_offer (hJ : gz_inj ad lm_lay) (I : Nat → Nat → Int32) (G : Nat → Nat → UInt64) (dp : Nat) (hdp : dp < 10) (hs : Bool) (hh : I 13 dp = gz_b hs) (x1 : Int32) (y : UInt64) (hx1 : x1 = nI dp) : gz_Ct l D ad cy lm_lay yX8_offer cX8_offer 4 none 0 [.ref (ad 0), .int x1, .double y] (I, G) (fun v M1 => v = none ∧ M1 = cond (!hs || fp_gt y (G 11 dp)) (gz_up (gz_up I 13 dp 1) 12 dp (I 10 dp), gz_up G 11 dp y) (I, G)) := by
  refine gz_met (by decide +kernel) hJ (Nat.le_of_ble_eq_true rfl) ?_
  intro p e s m args below meth c hC
  refine gz_aload_n hC dX8_offer_0 rfl ?_
  refine gz_getR (j := 23) hC dX8_offer_1 cf_X8 fl_X8_57 rfl rfl (by decide) ?_
  refine gz_iload_n hC dX8_offer_4 rfl ?_
  refine gz_zald hC dX8_offer_5 rfl (by rw [hx1]; exact vp_in_nI (by omega) (by decide)) ?_
  rw [show x1.toNatClampNeg = dp by rw [hx1, nI_clamp (by omega)]]
  rw [hh]
  refine gz_if_eq hC 20 dX8_offer_6 (by decide) (fun c6 => ?_) (fun c6 => ?_)
  · have hv : (!hs || fp_gt y (G 11 dp)) = true := by rw [gz_b0 c6]; rfl
    refine gz_aload_n hC dX8_offer_20 rfl ?_
    refine gz_getR (j := 23) hC dX8_offer_21 cf_X8 fl_X8_57 rfl rfl (by decide) ?_
    refine gz_iload_n hC dX8_offer_24 rfl ?_
    refine gz_iconst hC (1) dX8_offer_25 (by decide) ?_
    refine gz_zast hC dX8_offer_26 rfl (by rw [hx1]; exact vp_in_nI (by omega) (by decide)) ?_
    refine gz_aload_n hC dX8_offer_27 rfl ?_
    refine gz_getR (j := 21) hC dX8_offer_28 cf_X8 fl_X8_51 rfl rfl (by decide) ?_
    refine gz_iload_n hC dX8_offer_31 rfl ?_
    refine gz_dload_n hC dX8_offer_32 rfl ?_
    refine gz_dast hC dX8_offer_33 rfl (by rw [hx1]; exact vp_in_nI (by omega) (by decide)) ?_
    refine gz_aload_n hC dX8_offer_34 rfl ?_
    refine gz_getR (j := 22) hC dX8_offer_35 cf_X8 fl_X8_54 rfl rfl (by decide) ?_
    refine gz_iload_n hC dX8_offer_38 rfl ?_
    refine gz_aload_n hC dX8_offer_39 rfl ?_
    refine gz_getR (j := 20) hC dX8_offer_40 cf_X8 fl_X8_48 rfl rfl (by decide) ?_
    refine gz_iload_n hC dX8_offer_43 rfl ?_
    refine gz_iald hC dX8_offer_44 rfl (by rw [hx1]; exact vp_in_nI (by omega) (by decide)) ?_
    refine gz_iast hC dX8_offer_45 rfl (by rw [hx1]; exact vp_in_nI (by omega) (by decide)) ?_
    exact gz_vret hC dX8_offer_46 ⟨rfl, by rw [hv, show x1.toNatClampNeg = dp by rw [hx1, nI_clamp (by omega)], gz_up_at (by decide)]; rfl⟩
  · have hb := gz_b1 c6
    refine gz_dload_n hC dX8_offer_9 rfl ?_
    refine gz_aload_n hC dX8_offer_10 rfl ?_
    refine gz_getR (j := 21) hC dX8_offer_11 cf_X8 fl_X8_51 rfl rfl (by decide) ?_
    refine gz_iload_n hC dX8_offer_14 rfl ?_
    refine gz_dald hC dX8_offer_15 rfl (by rw [hx1]; exact vp_in_nI (by omega) (by decide)) ?_
    rw [show x1.toNatClampNeg = dp by rw [hx1, nI_clamp (by omega)]]
    refine gz_dcmp hC dX8_offer_16 ?_
    refine gz_if_le hC 46 dX8_offer_17 (by decide) (fun c17 => ?_) (fun c17 => ?_)
    · have hv : (!hs || fp_gt y (G 11 dp)) = false := by rw [hb, fp_leF c17]; rfl
      exact gz_vret hC dX8_offer_46 ⟨rfl, by rw [hv]; rfl⟩
    · have hv : (!hs || fp_gt y (G 11 dp)) = true := by rw [fp_leT c17, Bool.or_true]
      refine gz_aload_n hC dX8_offer_20 rfl ?_
      refine gz_getR (j := 23) hC dX8_offer_21 cf_X8 fl_X8_57 rfl rfl (by decide) ?_
      refine gz_iload_n hC dX8_offer_24 rfl ?_
      refine gz_iconst hC (1) dX8_offer_25 (by decide) ?_
      refine gz_zast hC dX8_offer_26 rfl (by rw [hx1]; exact vp_in_nI (by omega) (by decide)) ?_
      refine gz_aload_n hC dX8_offer_27 rfl ?_
      refine gz_getR (j := 21) hC dX8_offer_28 cf_X8 fl_X8_51 rfl rfl (by decide) ?_
      refine gz_iload_n hC dX8_offer_31 rfl ?_
      refine gz_dload_n hC dX8_offer_32 rfl ?_
      refine gz_dast hC dX8_offer_33 rfl (by rw [hx1]; exact vp_in_nI (by omega) (by decide)) ?_
      refine gz_aload_n hC dX8_offer_34 rfl ?_
      refine gz_getR (j := 22) hC dX8_offer_35 cf_X8 fl_X8_54 rfl rfl (by decide) ?_
      refine gz_iload_n hC dX8_offer_38 rfl ?_
      refine gz_aload_n hC dX8_offer_39 rfl ?_
      refine gz_getR (j := 20) hC dX8_offer_40 cf_X8 fl_X8_48 rfl rfl (by decide) ?_
      refine gz_iload_n hC dX8_offer_43 rfl ?_
      refine gz_iald hC dX8_offer_44 rfl (by rw [hx1]; exact vp_in_nI (by omega) (by decide)) ?_
      refine gz_iast hC dX8_offer_45 rfl (by rw [hx1]; exact vp_in_nI (by omega) (by decide)) ?_
      exact gz_vret hC dX8_offer_46 ⟨rfl, by rw [hv, show x1.toNatClampNeg = dp by rw [hx1, nI_clamp (by omega)], gz_up_at (by decide)]; rfl⟩
  -- places not laid: [20, 21, 24, 25, 26, 27, 28, 31, 32, 33, 34, 35, 38, 39, 40, 43, 44, 45, 46]
set_option maxHeartbeats 4000000 in
set_option maxRecDepth 100000 in
theorem ct_X8_leads (hJ : gz_inj ad lm_lay) (I : Nat → Nat → Int32) (G : Nat → Nat → UInt64) (d0 d1 F : Nat) (w : Bool) (hO : cf_ok d0 d1 F) (hX : xm_tab d0 d1 F w I) (plan pl dp la : Nat) (R : Nat → UInt64) (K : Nat) (hp : pl < 2) (hpn : plan < 4) (hw : wt_ok (I 4)) (hdp : dp < 9) (hla : la ≤ (d0 + d1) * F) (h9 : I 9 dp = nI la - 1) (hK : 1024 ≤ K) (hK2 : K ≤ 1930) (hRb : ∀ k, k < an_nO d0 d1 F pl → fp_b K (R k)) (hR : ∀ k, k < an_nO d0 d1 F pl → G 8 (4 * dp + k) = R k) (q : Nat) (hq : q ≤ (d0 + d1) * F) (hmf : tb_mf la q = true) (x1 x2 x3 x4 : Int32) (hx1 : x1 = nI pl) (hx2 : x2 = nI plan) (hx3 : x3 = nI dp) (hx4 : x4 = nI q - 1) : gz_Ct l D ad cy lm_lay yX8_leads cX8_leads 10 (some .boolean) 5 [.ref (ad 0), .int x1, .int x2, .int x3, .int x4] (I, G) (fun v M1 => ∃ G1, v = some (.int (gz_b (an_any (an_R (an_S (I 4) d0 d1 F plan pl) R la q) (an_nO d0 d1 F pl)))) ∧ M1 = (I, G1) ∧ (∀ k, k < (an_nO d0 d1 F pl) → G1 8 (4 * (dp + 1) + k) = an_R (an_S (I 4) d0 d1 F plan pl) R la q k) ∧ ∀ o j, o ≠ 8 ∨ j < 4 * (dp + 1) → G1 o j = G o j) := by
  have hA := an_S_ok (plan := plan) hw hO hpn hp
  have hn4 := hA.1
  have Bd := cf_bids hO
  refine gz_met (by decide +kernel) hJ (Nat.le_of_ble_eq_true rfl) ?_
  intro p e s m args below meth c hC
  refine gz_iconst hC (1) dX8_leads_0 (by decide) ?_
  refine gz_iload_n hC dX8_leads_1 rfl ?_
  refine gz_isub hC dX8_leads_2 ?_
  refine gz_istore hC dX8_leads_3 (by decide) ?_
  refine gz_iconst hC (0) dX8_leads_5 (by decide) ?_
  refine gz_istore hC dX8_leads_6 (by decide) ?_
  refine gz_iconst hC (0) dX8_leads_8 (by decide) ?_
  refine gz_istore hC dX8_leads_9 (by decide) ?_
  obtain ⟨x5, hx5e⟩ : ∃ z, z = 1 - x1 := ⟨_, rfl⟩
  have hx5 : x5 = nI (1 - pl) := by rw [hx5e, hx1, gz_n1, pk_sub (by omega)]
  rw [← hx5e]
  have lp : ∀ (n k : Nat) (J : Nat → Nat → UInt64) (x6 x7 : Int32) (hi : k + n = (an_nO d0 d1 F pl)) (hx7 : x7 = nI k) (hx6 : x6 = gz_b (an_any (an_R (an_S (I 4) d0 d1 F plan pl) R la q) k)) (hdn : ∀ k2, k2 < k → J 8 (4 * (dp + 1) + k2) = an_R (an_S (I 4) d0 d1 F plan pl) R la q k2) (hg : ∀ o j, o ≠ 8 ∨ j < 4 * (dp + 1) → J o j = G o j), gz_W p l e (gz_rm 5) s m args below meth c D ad cy lm_lay 10 (MQ below (gz_Q D ad cy lm_lay (fun v M1 => ∃ G1, v = some (.int (gz_b (an_any (an_R (an_S (I 4) d0 d1 F plan pl) R la q) (an_nO d0 d1 F pl)))) ∧ M1 = (I, G1) ∧ (∀ k, k < (an_nO d0 d1 F pl) → G1 8 (4 * (dp + 1) + k) = an_R (an_S (I 4) d0 d1 F plan pl) R la q k) ∧ ∀ o j, o ≠ 8 ∨ j < 4 * (dp + 1) → G1 o j = G o j)) args s 0 0 (gz_A ad lm_lay)) (I, J) 11 [(0, .ref (ad 0)), (1, .int x1), (2, .int x2), (3, .int x3), (4, .int x4), (5, .int x5), (6, .int x6), (7, .int x7)] [] := by
    intro n
    induction n with
    | zero =>
      intro k J x6 x7 hi hx7 hx6 hdn hg
      refine gz_iload hC dX8_leads_11 rfl ?_
      refine gz_aload_n hC dX8_leads_13 rfl ?_
      refine gz_getR (j := 5) hC dX8_leads_14 cf_X8 fl_X8_23 rfl rfl (by decide) ?_
      refine gz_iload hC dX8_leads_17 rfl ?_
      refine gz_iald hC dX8_leads_19 rfl (by rw [hx5]; exact vp_in_nI (by omega) (by decide)) ?_
      rw [show x5.toNatClampNeg = 1 - pl by rw [hx5, nI_clamp (by omega)]]
      rw [(xm_hP hX (show 1 - pl < 2 by omega)).1]
      refine gz_icmp_ge hC 94 dX8_leads_20 (by decide) (fun c20 => ?_) (fun c20 => ?_)
      · refine gz_iload hC dX8_leads_94 rfl ?_
        exact gz_zret (by rw [hx6]; exact gz_bn _) hC dX8_leads_96 ⟨J, by rw [hx6, show k = (an_nO d0 d1 F pl) by omega], rfl, fun k2 hk2 => hdn k2 (by omega), hg⟩
      · exact absurd (gz_ile (show nI (tb_n (tb_d d0 d1 (1 - pl)) F) = nI (an_nO d0 d1 F pl) from rfl) hx7 (by omega) (by omega)) c20
    | succ n ih =>
      intro k J x6 x7 hi hx7 hx6 hdn hg
      refine gz_iload hC dX8_leads_11 rfl ?_
      refine gz_aload_n hC dX8_leads_13 rfl ?_
      refine gz_getR (j := 5) hC dX8_leads_14 cf_X8 fl_X8_23 rfl rfl (by decide) ?_
      refine gz_iload hC dX8_leads_17 rfl ?_
      refine gz_iald hC dX8_leads_19 rfl (by rw [hx5]; exact vp_in_nI (by omega) (by decide)) ?_
      rw [show x5.toNatClampNeg = 1 - pl by rw [hx5, nI_clamp (by omega)]]
      rw [(xm_hP hX (show 1 - pl < 2 by omega)).1]
      refine gz_icmp_ge hC 94 dX8_leads_20 (by decide) (fun c20 => ?_) (fun c20 => ?_)
      · exact absurd c20 (gz_inle (show nI (tb_n (tb_d d0 d1 (1 - pl)) F) = nI (an_nO d0 d1 F pl) from rfl) hx7 (by omega) (by omega))
      · refine gz_aload_n hC dX8_leads_23 rfl ?_
        refine gz_getR (j := 18) hC dX8_leads_24 cf_X8 fl_X8_42 rfl rfl (by decide) ?_
        refine gz_iconst hC (4) dX8_leads_27 (by decide) ?_
        refine gz_iload_n hC dX8_leads_28 rfl ?_
        refine gz_imul hC dX8_leads_29 ?_
        refine gz_iload hC dX8_leads_30 rfl ?_
        refine gz_iadd hC dX8_leads_32 ?_
        refine gz_dald hC dX8_leads_33 rfl (by rw [hx3, hx7, gz_n4, pk_mul, nI_add]; exact vp_in_nI (by omega) (by decide)) ?_
        rw [show (4 * x3 + x7).toNatClampNeg = 4 * dp + k by rw [hx3, hx7, gz_n4, pk_mul, nI_add, nI_clamp (by omega)], (hg 8 (4 * dp + k) (Or.inr (by omega))).trans (hR k (by omega))]
        refine gz_aload_n hC dX8_leads_34 rfl ?_
        refine gz_iload_n hC dX8_leads_35 rfl ?_
        refine gz_iload hC dX8_leads_36 rfl ?_
        refine gz_iload hC dX8_leads_38 rfl ?_
        refine gz_aload_n hC dX8_leads_40 rfl ?_
        refine gz_getR (j := 19) hC dX8_leads_41 cf_X8 fl_X8_45 rfl rfl (by decide) ?_
        refine gz_iload_n hC dX8_leads_44 rfl ?_
        refine gz_iald hC dX8_leads_45 rfl (by rw [hx3]; exact vp_in_nI (by omega) (by decide)) ?_
        rw [show x3.toNatClampNeg = dp by rw [hx3, nI_clamp (by omega)]]
        refine gz_iload hC dX8_leads_46 rfl ?_
        refine gz_callV5 hC dX8_leads_48 ml_X8_131 rfl rfl (by decide) (by decide) (Nat.le_of_ble_eq_true rfl) (ct_X8_part hJ _ _ d0 d1 F w hO hX plan (1 - pl) k la (by omega) hpn (by omega) hla hw _ _ _ _ hx2 hx5 hx7 h9 q hq hmf _ hx4) (fun v48 M48 hp48 => ?_)
        obtain ⟨rfl, rfl⟩ := hp48
        have hb := an_R_b (an_S_ok hw hO hpn hp) hK (by omega) hRb hla hq k (by omega)
        have hb2 : vf_n64 (FP.dmul (R k) (sh_v (I 4) (tb_ix plan (tb_d d0 d1 (1 - pl)) k la 0) la ((d0 + d1) * F) q)) := fp_b_n64 hb (by omega)
        refine gz_dmul hC dX8_leads_51 hb2 ?_
        refine gz_dstore hC dX8_leads_52 (by decide) ?_
        refine gz_aload_n hC dX8_leads_54 rfl ?_
        refine gz_getR (j := 18) hC dX8_leads_55 cf_X8 fl_X8_42 rfl rfl (by decide) ?_
        refine gz_iconst hC (4) dX8_leads_58 (by decide) ?_
        refine gz_iload_n hC dX8_leads_59 rfl ?_
        refine gz_imul hC dX8_leads_60 ?_
        refine gz_iconst hC (4) dX8_leads_61 (by decide) ?_
        refine gz_iadd hC dX8_leads_62 ?_
        refine gz_iload hC dX8_leads_63 rfl ?_
        refine gz_iadd hC dX8_leads_65 ?_
        refine gz_dload hC dX8_leads_66 rfl ?_
        refine gz_dast hC dX8_leads_68 rfl (by rw [hx3, hx7, gz_n4, pk_mul, nI_add, nI_add]; exact vp_in_nI (by omega) (by decide)) ?_
        rw [show (4 * x3 + 4 + x7).toNatClampNeg = 4 * (dp + 1) + k by rw [hx3, hx7, gz_n4, pk_mul, nI_add, nI_add, nI_clamp (by omega)]; omega]
        refine gz_iload hC dX8_leads_69 rfl ?_
        refine gz_if_ne hC 81 dX8_leads_71 (by decide) (fun c71 => ?_) (fun c71 => ?_)
        · have ha := gz_b1 (fun z => c71 (hx6.trans z))
          refine gz_iconst hC (1) dX8_leads_81 (by decide) ?_
          refine gz_goto hC 86 dX8_leads_82 (by decide) ?_
          refine gz_istore hC dX8_leads_86 (by decide) ?_
          refine gz_iinc hC (1) dX8_leads_88 rfl (by decide) (by decide) ?_
          refine gz_goto hC 11 dX8_leads_91 (by decide) ?_
          refine gz_lw [(0, .ref (ad 0)), (1, .int x1), (2, .int x2), (3, .int x3), (4, .int x4), (5, .int x5), (6, .int 1), (7, .int (x7 + 1))] ⟨rfl, rfl, rfl, rfl, rfl, rfl, rfl, rfl, trivial⟩ ?_
          exact ih (k + 1) _ _ _ (by omega) (gz_i1 hx7) (by rw [an_any_pos, ha]; rfl) (fun k2 hk2 => by by_cases e : k2 = k; (subst e; exact gz_up_self); exact (gz_up_oth (by omega)).trans (hdn k2 (by omega))) (fun o j h1 => by by_cases e : o = 8; (subst e; exact (gz_up_oth (by omega)).trans (hg 8 j h1)); exact (gz_up_at e).trans (hg o j h1))
        · have ha := gz_b0 (hx6.symm.trans c71)
          refine gz_dload hC dX8_leads_74 rfl ?_
          refine gz_dconst0 hC dX8_leads_76 ?_
          refine gz_dcmp hC dX8_leads_77 ?_
          refine gz_if_eq hC 85 dX8_leads_78 (by decide) (fun c78 => ?_) (fun c78 => ?_)
          · have hv : fp_pos (an_R (an_S (I 4) d0 d1 F plan pl) R la q k) = false := (fp_eq0 hb (by omega)).mp c78
            refine gz_iconst hC (0) dX8_leads_85 (by decide) ?_
            refine gz_istore hC dX8_leads_86 (by decide) ?_
            refine gz_iinc hC (1) dX8_leads_88 rfl (by decide) (by decide) ?_
            refine gz_goto hC 11 dX8_leads_91 (by decide) ?_
            refine gz_lw [(0, .ref (ad 0)), (1, .int x1), (2, .int x2), (3, .int x3), (4, .int x4), (5, .int x5), (6, .int 0), (7, .int (x7 + 1))] ⟨rfl, rfl, rfl, rfl, rfl, rfl, rfl, rfl, trivial⟩ ?_
            exact ih (k + 1) _ _ _ (by omega) (gz_i1 hx7) (by rw [an_any_pos, ha, hv]; rfl) (fun k2 hk2 => by by_cases e : k2 = k; (subst e; exact gz_up_self); exact (gz_up_oth (by omega)).trans (hdn k2 (by omega))) (fun o j h1 => by by_cases e : o = 8; (subst e; exact (gz_up_oth (by omega)).trans (hg 8 j h1)); exact (gz_up_at e).trans (hg o j h1))
          · have hv : fp_pos (an_R (an_S (I 4) d0 d1 F plan pl) R la q k) = true := by
              cases e : fp_pos (an_R (an_S (I 4) d0 d1 F plan pl) R la q k)
              · exact absurd ((fp_eq0 hb (by omega)).mpr e) c78
              · rfl
            refine gz_iconst hC (1) dX8_leads_81 (by decide) ?_
            refine gz_goto hC 86 dX8_leads_82 (by decide) ?_
            refine gz_istore hC dX8_leads_86 (by decide) ?_
            refine gz_iinc hC (1) dX8_leads_88 rfl (by decide) (by decide) ?_
            refine gz_goto hC 11 dX8_leads_91 (by decide) ?_
            refine gz_lw [(0, .ref (ad 0)), (1, .int x1), (2, .int x2), (3, .int x3), (4, .int x4), (5, .int x5), (6, .int 1), (7, .int (x7 + 1))] ⟨rfl, rfl, rfl, rfl, rfl, rfl, rfl, rfl, trivial⟩ ?_
            exact ih (k + 1) _ _ _ (by omega) (gz_i1 hx7) (by rw [an_any_pos, hv, Bool.or_true]; rfl) (fun k2 hk2 => by by_cases e : k2 = k; (subst e; exact gz_up_self); exact (gz_up_oth (by omega)).trans (hdn k2 (by omega))) (fun o j h1 => by by_cases e : o = 8; (subst e; exact (gz_up_oth (by omega)).trans (hg 8 j h1)); exact (gz_up_at e).trans (hg o j h1))
  exact gz_lw [(0, .ref (ad 0)), (1, .int x1), (2, .int x2), (3, .int x3), (4, .int x4), (5, .int x5), (6, .int 0), (7, .int 0)] ⟨rfl, rfl, rfl, rfl, rfl, rfl, rfl, rfl, trivial⟩ (lp (an_nO d0 d1 F pl) 0 G 0 0 (by omega) rfl rfl (fun k2 h => absurd h (Nat.not_lt_zero k2)) (fun _ _ _ => rfl))
  -- places not laid: [13, 14, 17, 19, 20, 23, 24, 27, 28, 29, 30, 32, 33, 34, 35, 36, 38, 40, 41, 44, 45, 46, 48, 51, 52, 54, 55, 58, 59, 60, 61, 62, 63, 65, 66, 68, 69, 71, 74, 76, 77, 78, 81, 82, 85, 86, 88, 91, 94, 96]
set_option maxHeartbeats 4000000 in
set_option maxRecDepth 100000 in
theorem ct_X8_call_a (hJ : gz_inj ad lm_lay) (I : Nat → Nat → Int32) (G : Nat → Nat → UInt64) (d0 d1 F : Nat) (w : Bool) (hO : cf_ok d0 d1 F) (hX : xm_tab d0 d1 F w I) (plan pl dp la : Nat) (R : Nat → UInt64) (K : Nat) (hp : pl < 2) (hpn : plan < 4) (hw : wt_ok (I 4)) (hdp : dp < 9) (hla : la ≤ (d0 + d1) * F) (h9 : I 9 dp = nI la - 1) (hK : 1024 ≤ K) (hK2 : K ≤ 1930) (hRb : ∀ k, k < an_nO d0 d1 F pl → fp_b K (R k)) (hR : ∀ k, k < an_nO d0 d1 F pl → G 8 (4 * dp + k) = R k) (own : Nat) (ho : own < tb_n (tb_d d0 d1 pl) F) (hl1 : 1 ≤ la) (x1 x2 x3 x4 : Int32) (hx1 : x1 = nI pl) (hx2 : x2 = nI plan) (hx3 : x3 = nI own) (hx4 : x4 = nI dp) (hown : dp % 2 = pl) (hs : Bool) (hh : I 13 dp = gz_b hs) : gz_Ct l D ad cy lm_lay yX8_call cX8_call 10 none 4 [.ref (ad 0), .int x1, .int x2, .int x3, .int x4] (I, G) (fun v M1 => v = none ∧ M1 = cond (!hs || fp_gt (an_cs (fun k => !(an_t d0 d1 F w pl own) la k) R 0 (an_nO d0 d1 F pl)) (G 11 dp)) (gz_up (gz_up I 13 dp 1) 12 dp (I 10 dp), gz_up G 11 dp (an_cs (fun k => !(an_t d0 d1 F w pl own) la k) R 0 (an_nO d0 d1 F pl))) (I, G)) := by
  have hA := an_S_ok (plan := plan) hw hO hpn hp
  have hn4 := hA.1
  have Bd := cf_bids hO
  refine gz_met (by decide +kernel) hJ (Nat.le_of_ble_eq_true rfl) ?_
  intro p e s m args below meth c hC
  refine gz_iload hC dX8_call_0 rfl ?_
  refine gz_iconst hC (2) dX8_call_2 (by decide) ?_
  refine gz_irem hC dX8_call_3 (by decide) ?_
  obtain ⟨x5, hx5e⟩ : ∃ z, z = x4 - x4 / 2 * 2 := ⟨_, rfl⟩
  have hx5 : x5 = nI (dp % 2) := by rw [hx5e, hx4, gz_n2]; exact pk_rem (by omega) (by decide) (by decide)
  rw [← hx5e]
  rw [hown] at hx5
  refine gz_istore hC dX8_call_4 (by decide) ?_
  refine gz_iconst hC (1) dX8_call_6 (by decide) ?_
  refine gz_iload_n hC dX8_call_7 rfl ?_
  refine gz_isub hC dX8_call_8 ?_
  obtain ⟨x6, hx6e⟩ : ∃ z, z = 1 - x1 := ⟨_, rfl⟩
  have hx6 : x6 = nI (1 - pl) := by rw [hx6e, hx1, gz_n1, pk_sub (by omega)]
  rw [← hx6e]
  refine gz_istore hC dX8_call_9 (by decide) ?_
  refine gz_iload hC dX8_call_11 rfl ?_
  refine gz_iload_n hC dX8_call_13 rfl ?_
  refine gz_icmp_ne hC 89 dX8_call_14 (by decide) (fun c14 => ?_) (fun c14 => ?_)
  · exact absurd (hx5.trans hx1.symm) c14
  · refine gz_dconst0 hC dX8_call_17 ?_
    refine gz_dstore hC dX8_call_18 (by decide) ?_
    refine gz_iconst hC (0) dX8_call_20 (by decide) ?_
    refine gz_istore hC dX8_call_21 (by decide) ?_
    have lp : ∀ (n k : Nat) (y : UInt64) (x9 : Int32) (hi : k + n = (an_nO d0 d1 F pl)) (hx9 : x9 = nI k) (hy : y = an_cs (fun k => !(an_t d0 d1 F w pl own) la k) R 0 k), gz_W p l e (gz_rm 4) s m args below meth c D ad cy lm_lay 10 (MQ below (gz_Q D ad cy lm_lay (fun v M1 => v = none ∧ M1 = cond (!hs || fp_gt (an_cs (fun k => !(an_t d0 d1 F w pl own) la k) R 0 (an_nO d0 d1 F pl)) (G 11 dp)) (gz_up (gz_up I 13 dp 1) 12 dp (I 10 dp), gz_up G 11 dp (an_cs (fun k => !(an_t d0 d1 F w pl own) la k) R 0 (an_nO d0 d1 F pl))) (I, G))) args s 0 0 (gz_A ad lm_lay)) (I, G) 23 [(0, .ref (ad 0)), (1, .int x1), (2, .int x2), (3, .int x3), (4, .int x4), (5, .int x5), (6, .int x6), (7, .double y), (9, .int x9)] [] := by
      intro n
      induction n with
      | zero =>
        intro k y x9 hi hx9 hy
        refine gz_iload hC dX8_call_23 rfl ?_
        refine gz_aload_n hC dX8_call_25 rfl ?_
        refine gz_getR (j := 5) hC dX8_call_26 cf_X8 fl_X8_23 rfl rfl (by decide) ?_
        refine gz_iload hC dX8_call_29 rfl ?_
        refine gz_iald hC dX8_call_31 rfl (by rw [hx6]; exact vp_in_nI (by omega) (by decide)) ?_
        rw [show x6.toNatClampNeg = 1 - pl by rw [hx6, nI_clamp (by omega)]]
        rw [(xm_hP hX (show 1 - pl < 2 by omega)).1]
        refine gz_icmp_ge hC 78 dX8_call_32 (by decide) (fun c32 => ?_) (fun c32 => ?_)
        · refine gz_aload_n hC dX8_call_78 rfl ?_
          refine gz_iload hC dX8_call_79 rfl ?_
          refine gz_dload hC dX8_call_81 rfl ?_
          rw [hy, show k = (an_nO d0 d1 F pl) by omega]
          refine gz_callV2 hC dX8_call_83 ml_X8_154 rfl rfl (by decide) (by decide) (Nat.le_of_ble_eq_true rfl) (ct_X8_offer hJ _ _ dp (by omega) hs hh _ _ hx4) (fun v83 M83 hp83 => ?_)
          obtain ⟨rfl, hM⟩ := hp83
          subst hM
          cases hcc : (!hs || fp_gt (an_cs (fun k => !(an_t d0 d1 F w pl own) la k) R 0 (an_nO d0 d1 F pl)) (G 11 dp))
          · refine gz_goto hC 171 dX8_call_86 (by decide) ?_
            exact gz_vret hC dX8_call_171 ⟨rfl, rfl⟩
          · refine gz_goto hC 171 dX8_call_86 (by decide) ?_
            exact gz_vret hC dX8_call_171 ⟨rfl, rfl⟩
        · exact absurd (gz_ile (show nI (tb_n (tb_d d0 d1 (1 - pl)) F) = nI (an_nO d0 d1 F pl) from rfl) hx9 (by omega) (by omega)) c32
      | succ n ih =>
        intro k y x9 hi hx9 hy
        refine gz_iload hC dX8_call_23 rfl ?_
        refine gz_aload_n hC dX8_call_25 rfl ?_
        refine gz_getR (j := 5) hC dX8_call_26 cf_X8 fl_X8_23 rfl rfl (by decide) ?_
        refine gz_iload hC dX8_call_29 rfl ?_
        refine gz_iald hC dX8_call_31 rfl (by rw [hx6]; exact vp_in_nI (by omega) (by decide)) ?_
        rw [show x6.toNatClampNeg = 1 - pl by rw [hx6, nI_clamp (by omega)]]
        rw [(xm_hP hX (show 1 - pl < 2 by omega)).1]
        refine gz_icmp_ge hC 78 dX8_call_32 (by decide) (fun c32 => ?_) (fun c32 => ?_)
        · exact absurd c32 (gz_inle (show nI (tb_n (tb_d d0 d1 (1 - pl)) F) = nI (an_nO d0 d1 F pl) from rfl) hx9 (by omega) (by omega))
        · refine gz_aload_n hC dX8_call_35 rfl ?_
          refine gz_iload_n hC dX8_call_36 rfl ?_
          refine gz_iload hC dX8_call_37 rfl ?_
          refine gz_iload_n hC dX8_call_39 rfl ?_
          refine gz_iload hC dX8_call_40 rfl ?_
          refine gz_aload_n hC dX8_call_42 rfl ?_
          refine gz_getR (j := 19) hC dX8_call_43 cf_X8 fl_X8_45 rfl rfl (by decide) ?_
          refine gz_iload hC dX8_call_46 rfl ?_
          refine gz_iald hC dX8_call_48 rfl (by rw [hx4]; exact vp_in_nI (by omega) (by decide)) ?_
          rw [show x4.toNatClampNeg = dp by rw [hx4, nI_clamp (by omega)]]
          refine gz_callV5 hC dX8_call_49 ml_X8_151 rfl rfl (by decide) (by decide) (Nat.le_of_ble_eq_true rfl) (ct_X8_winsBy hJ _ _ d0 d1 F w hO hX pl pl own k (la - 1) hp hp _ _ _ _ _ hx1 hx5 hx3 hx9 (by rw [h9]; exact pk_sub (b := 1) hl1) ho (by unfold an_nO at hi; omega) (by omega)) (fun v49 M49 hp49 => ?_)
          obtain ⟨rfl, rfl⟩ := hp49
          rw [show (decide (¬ pl = pl) == tb_tf d0 d1 F w pl own k (la - 1)) = !(an_t d0 d1 F w pl own) la k by rw [decide_eq_false (fun q => q rfl)]; exact Bool.false_beq _]
          refine gz_if_eq hC 72 dX8_call_52 (by decide) (fun c52 => ?_) (fun c52 => ?_)
          · have hb := gz_b0 c52
            refine gz_iinc hC (1) dX8_call_72 rfl (by decide) (by decide) ?_
            refine gz_goto hC 23 dX8_call_75 (by decide) ?_
            refine gz_lw [(0, .ref (ad 0)), (1, .int x1), (2, .int x2), (3, .int x3), (4, .int x4), (5, .int x5), (6, .int x6), (7, .double y), (9, .int (x9 + 1))] ⟨rfl, rfl, rfl, rfl, rfl, rfl, rfl, rfl, rfl, trivial⟩ ?_
            exact ih (k + 1) _ _ (by omega) (gz_i1 hx9) (by rw [hy]; show _ = cond (!(an_t d0 d1 F w pl own) la k) _ _; rw [hb]; rfl)
          · have hb := gz_b1 c52
            have hacc := an_cs_b (t := fun k => !(an_t d0 d1 F w pl own) la k) (R := R) (a := 0) (K := K) (fp_b_mono fp_b_0 (by omega)) k (fun k2 hk2 => hRb k2 (by omega)) (by omega)
            rw [← hy] at hacc
            refine gz_dload hC dX8_call_55 rfl ?_
            refine gz_aload_n hC dX8_call_57 rfl ?_
            refine gz_getR (j := 18) hC dX8_call_58 cf_X8 fl_X8_42 rfl rfl (by decide) ?_
            refine gz_iconst hC (4) dX8_call_61 (by decide) ?_
            refine gz_iload hC dX8_call_62 rfl ?_
            refine gz_imul hC dX8_call_64 ?_
            refine gz_iload hC dX8_call_65 rfl ?_
            refine gz_iadd hC dX8_call_67 ?_
            refine gz_dald hC dX8_call_68 rfl (by rw [hx4, hx9, gz_n4, pk_mul, nI_add]; exact vp_in_nI (by omega) (by decide)) ?_
            rw [show (4 * x4 + x9).toNatClampNeg = 4 * dp + k by rw [hx4, hx9, gz_n4, pk_mul, nI_add, nI_clamp (by omega)], hR k (by omega)]
            refine gz_dadd hC dX8_call_69 (fp_b_n64 (fp_b_add hacc (fp_b_mono (hRb k (by omega)) (by omega)) (by omega)) (by omega)) ?_
            refine gz_dstore hC dX8_call_70 (by decide) ?_
            refine gz_iinc hC (1) dX8_call_72 rfl (by decide) (by decide) ?_
            refine gz_goto hC 23 dX8_call_75 (by decide) ?_
            refine gz_lw [(0, .ref (ad 0)), (1, .int x1), (2, .int x2), (3, .int x3), (4, .int x4), (5, .int x5), (6, .int x6), (7, .double _), (9, .int (x9 + 1))] ⟨rfl, rfl, rfl, rfl, rfl, rfl, rfl, rfl, rfl, trivial⟩ ?_
            exact ih (k + 1) _ _ (by omega) (gz_i1 hx9) (by rw [hy]; show _ = cond (!(an_t d0 d1 F w pl own) la k) _ _; rw [hb]; rfl)
    exact gz_lw [(0, .ref (ad 0)), (1, .int x1), (2, .int x2), (3, .int x3), (4, .int x4), (5, .int x5), (6, .int x6), (7, .double 0), (9, .int 0)] ⟨rfl, rfl, rfl, rfl, rfl, rfl, rfl, rfl, rfl, trivial⟩ (lp (an_nO d0 d1 F pl) 0 0 0 (by omega) rfl rfl)
  -- places not laid: [25, 26, 29, 31, 32, 35, 36, 37, 39, 40, 42, 43, 46, 48, 49, 52, 55, 57, 58, 61, 62, 64, 65, 67, 68, 69, 70, 72, 75, 78, 79, 81, 83, 86, 89, 90, 91, 92, 94, 95, 98, 101, 102, 104, 106, 107, 110, 112, 113, 116, 117, 118, 120, 121, 123, 124, 127, 129, 130, 133, 136, 137, 140, 142, 143, 146, 148, 149, 150, 153, 154, 156, 157, 158, 159, 161, 162, 163, 164, 165, 168, 171]
set_option maxHeartbeats 4000000 in
set_option maxRecDepth 100000 in
theorem ct_X8_call_b (hJ : gz_inj ad lm_lay) (I : Nat → Nat → Int32) (G : Nat → Nat → UInt64) (d0 d1 F : Nat) (w : Bool) (hO : cf_ok d0 d1 F) (hX : xm_tab d0 d1 F w I) (plan pl dp la : Nat) (R : Nat → UInt64) (K : Nat) (hp : pl < 2) (hpn : plan < 4) (hw : wt_ok (I 4)) (hdp : dp < 9) (hla : la ≤ (d0 + d1) * F) (h9 : I 9 dp = nI la - 1) (hK : 1024 ≤ K) (hK2 : K ≤ 1930) (hRb : ∀ k, k < an_nO d0 d1 F pl → fp_b K (R k)) (hR : ∀ k, k < an_nO d0 d1 F pl → G 8 (4 * dp + k) = R k) (own : Nat) (ho : own < tb_n (tb_d d0 d1 pl) F) (hl1 : 1 ≤ la) (x1 x2 x3 x4 : Int32) (hx1 : x1 = nI pl) (hx2 : x2 = nI plan) (hx3 : x3 = nI own) (hx4 : x4 = nI dp) (hown : ¬ dp % 2 = pl) (h11 : G 11 dp = 0) : gz_Ct l D ad cy lm_lay yX8_call cX8_call 10 none 6 [.ref (ad 0), .int x1, .int x2, .int x3, .int x4] (I, G) (fun v M1 => ∃ G1, v = none ∧ M1 = (I, G1) ∧ G1 11 dp = cond (an_any (an_R (an_S (I 4) d0 d1 F plan pl) R la 0) (an_nO d0 d1 F pl)) (an_cs ((an_t d0 d1 F w pl own) la) (an_R (an_S (I 4) d0 d1 F plan pl) R la 0) 0 (an_nO d0 d1 F pl)) 0 ∧ ∀ o j, o ≠ 8 ∨ j < 4 * (dp + 1) → o ≠ 11 ∨ j ≠ dp → G1 o j = G o j) := by
  have hA := an_S_ok (plan := plan) hw hO hpn hp
  have hn4 := hA.1
  have Bd := cf_bids hO
  refine gz_met (by decide +kernel) hJ (Nat.le_of_ble_eq_true rfl) ?_
  intro p e s m args below meth c hC
  refine gz_iload hC dX8_call_0 rfl ?_
  refine gz_iconst hC (2) dX8_call_2 (by decide) ?_
  refine gz_irem hC dX8_call_3 (by decide) ?_
  obtain ⟨x5, hx5e⟩ : ∃ z, z = x4 - x4 / 2 * 2 := ⟨_, rfl⟩
  have hx5 : x5 = nI (dp % 2) := by rw [hx5e, hx4, gz_n2]; exact pk_rem (by omega) (by decide) (by decide)
  rw [← hx5e]
  rw [show dp % 2 = 1 - pl by omega] at hx5
  refine gz_istore hC dX8_call_4 (by decide) ?_
  refine gz_iconst hC (1) dX8_call_6 (by decide) ?_
  refine gz_iload_n hC dX8_call_7 rfl ?_
  refine gz_isub hC dX8_call_8 ?_
  obtain ⟨x6, hx6e⟩ : ∃ z, z = 1 - x1 := ⟨_, rfl⟩
  have hx6 : x6 = nI (1 - pl) := by rw [hx6e, hx1, gz_n1, pk_sub (by omega)]
  rw [← hx6e]
  refine gz_istore hC dX8_call_9 (by decide) ?_
  refine gz_iload hC dX8_call_11 rfl ?_
  refine gz_iload_n hC dX8_call_13 rfl ?_
  refine gz_icmp_ne hC 89 dX8_call_14 (by decide) (fun c14 => ?_) (fun c14 => ?_)
  · refine gz_aload_n hC dX8_call_89 rfl ?_
    refine gz_iload_n hC dX8_call_90 rfl ?_
    refine gz_iload_n hC dX8_call_91 rfl ?_
    refine gz_iload hC dX8_call_92 rfl ?_
    refine gz_iconst hC (-1) dX8_call_94 (by decide) ?_
    refine gz_callV4 hC dX8_call_95 ml_X8_158 rfl rfl (by decide) (by decide) (Nat.le_of_ble_eq_true rfl) (ct_X8_leads hJ _ _ d0 d1 F w hO hX plan pl dp la R K hp hpn hw hdp hla h9 hK hK2 hRb hR 0 (Nat.zero_le _) (by unfold tb_mf; rw [decide_eq_true rfl, decide_eq_false (show ¬ la = 0 by omega)]; rfl) _ _ _ _ hx1 hx2 hx4 nM_0) (fun v95 M95 hp95 => ?_)
    obtain ⟨J4, rfl, rfl, k1, k2⟩ := hp95
    have hRb2 := an_R_b hA hK (by omega) hRb hla (Nat.zero_le _)
    refine gz_if_eq hC 171 dX8_call_98 (by decide) (fun c98 => ?_) (fun c98 => ?_)
    · have hb := gz_b0 c98
      exact gz_vret hC dX8_call_171 ⟨J4, rfl, rfl, by rw [hb]; exact (k2 11 dp (Or.inl (by decide))).trans h11, fun o j h1 _ => k2 o j h1⟩
    · have hb := gz_b1 c98
      refine gz_iconst hC (0) dX8_call_101 (by decide) ?_
      refine gz_istore hC dX8_call_102 (by decide) ?_
      have lp : ∀ (n k : Nat) (J : Nat → Nat → UInt64) (x7 : Int32) (hi : k + n = (an_nO d0 d1 F pl)) (hx7 : x7 = nI k) (hy : J 11 dp = an_cs ((an_t d0 d1 F w pl own) la) (an_R (an_S (I 4) d0 d1 F plan pl) R la 0) 0 k) (hg : ∀ o j, o ≠ 11 ∨ j ≠ dp → J o j = J4 o j), gz_W p l e (gz_rm 6) s m args below meth c D ad cy lm_lay 10 (MQ below (gz_Q D ad cy lm_lay (fun v M1 => ∃ G1, v = none ∧ M1 = (I, G1) ∧ G1 11 dp = cond (an_any (an_R (an_S (I 4) d0 d1 F plan pl) R la 0) (an_nO d0 d1 F pl)) (an_cs ((an_t d0 d1 F w pl own) la) (an_R (an_S (I 4) d0 d1 F plan pl) R la 0) 0 (an_nO d0 d1 F pl)) 0 ∧ ∀ o j, o ≠ 8 ∨ j < 4 * (dp + 1) → o ≠ 11 ∨ j ≠ dp → G1 o j = G o j)) args s 0 0 (gz_A ad lm_lay)) (I, J) 104 [(0, .ref (ad 0)), (1, .int x1), (2, .int x2), (3, .int x3), (4, .int x4), (5, .int x5), (6, .int x6), (7, .int x7)] [] := by
        intro n
        induction n with
        | zero =>
          intro k J x7 hi hx7 hy hg
          refine gz_iload hC dX8_call_104 rfl ?_
          refine gz_aload_n hC dX8_call_106 rfl ?_
          refine gz_getR (j := 5) hC dX8_call_107 cf_X8 fl_X8_23 rfl rfl (by decide) ?_
          refine gz_iload hC dX8_call_110 rfl ?_
          refine gz_iald hC dX8_call_112 rfl (by rw [hx6]; exact vp_in_nI (by omega) (by decide)) ?_
          rw [show x6.toNatClampNeg = 1 - pl by rw [hx6, nI_clamp (by omega)]]
          rw [(xm_hP hX (show 1 - pl < 2 by omega)).1]
          refine gz_icmp_ge hC 171 dX8_call_113 (by decide) (fun c113 => ?_) (fun c113 => ?_)
          · exact gz_vret hC dX8_call_171 ⟨J, rfl, rfl, by rw [hb]; show J 11 dp = an_cs ((an_t d0 d1 F w pl own) la) (an_R (an_S (I 4) d0 d1 F plan pl) R la 0) 0 (an_nO d0 d1 F pl); rw [hy, show k = (an_nO d0 d1 F pl) by omega], fun o j h1 h2 => (hg o j h2).trans (k2 o j h1)⟩
          · exact absurd (gz_ile (show nI (tb_n (tb_d d0 d1 (1 - pl)) F) = nI (an_nO d0 d1 F pl) from rfl) hx7 (by omega) (by omega)) c113
        | succ n ih =>
          intro k J x7 hi hx7 hy hg
          refine gz_iload hC dX8_call_104 rfl ?_
          refine gz_aload_n hC dX8_call_106 rfl ?_
          refine gz_getR (j := 5) hC dX8_call_107 cf_X8 fl_X8_23 rfl rfl (by decide) ?_
          refine gz_iload hC dX8_call_110 rfl ?_
          refine gz_iald hC dX8_call_112 rfl (by rw [hx6]; exact vp_in_nI (by omega) (by decide)) ?_
          rw [show x6.toNatClampNeg = 1 - pl by rw [hx6, nI_clamp (by omega)]]
          rw [(xm_hP hX (show 1 - pl < 2 by omega)).1]
          refine gz_icmp_ge hC 171 dX8_call_113 (by decide) (fun c113 => ?_) (fun c113 => ?_)
          · exact absurd c113 (gz_inle (show nI (tb_n (tb_d d0 d1 (1 - pl)) F) = nI (an_nO d0 d1 F pl) from rfl) hx7 (by omega) (by omega))
          · refine gz_aload_n hC dX8_call_116 rfl ?_
            refine gz_iload_n hC dX8_call_117 rfl ?_
            refine gz_iload hC dX8_call_118 rfl ?_
            refine gz_iload_n hC dX8_call_120 rfl ?_
            refine gz_iload hC dX8_call_121 rfl ?_
            refine gz_aload_n hC dX8_call_123 rfl ?_
            refine gz_getR (j := 19) hC dX8_call_124 cf_X8 fl_X8_45 rfl rfl (by decide) ?_
            refine gz_iload hC dX8_call_127 rfl ?_
            refine gz_iald hC dX8_call_129 rfl (by rw [hx4]; exact vp_in_nI (by omega) (by decide)) ?_
            rw [show x4.toNatClampNeg = dp by rw [hx4, nI_clamp (by omega)]]
            refine gz_callV5 hC dX8_call_130 ml_X8_151 rfl rfl (by decide) (by decide) (Nat.le_of_ble_eq_true rfl) (ct_X8_winsBy hJ _ _ d0 d1 F w hO hX pl (1 - pl) own k (la - 1) hp (by omega) _ _ _ _ _ hx1 hx5 hx3 hx7 (by rw [h9]; exact pk_sub (b := 1) hl1) ho (by unfold an_nO at hi; omega) (by omega)) (fun v130 M130 hp130 => ?_)
            obtain ⟨rfl, rfl⟩ := hp130
            rw [show (decide (¬ pl = 1 - pl) == tb_tf d0 d1 F w pl own k (la - 1)) = (an_t d0 d1 F w pl own) la k by rw [decide_eq_true (show ¬ pl = 1 - pl by omega)]; exact Bool.true_beq _]
            refine gz_if_eq hC 165 dX8_call_133 (by decide) (fun c133 => ?_) (fun c133 => ?_)
            · have hb2 := gz_b0 c133
              refine gz_iinc hC (1) dX8_call_165 rfl (by decide) (by decide) ?_
              refine gz_goto hC 104 dX8_call_168 (by decide) ?_
              refine gz_lw [(0, .ref (ad 0)), (1, .int x1), (2, .int x2), (3, .int x3), (4, .int x4), (5, .int x5), (6, .int x6), (7, .int (x7 + 1))] ⟨rfl, rfl, rfl, rfl, rfl, rfl, rfl, rfl, trivial⟩ ?_
              exact ih (k + 1) _ _ (by omega) (gz_i1 hx7) (by rw [hy]; show _ = cond ((an_t d0 d1 F w pl own) la k) _ _; rw [hb2]; rfl) hg
            · have hb2 := gz_b1 c133
              have hacc := an_cs_b (t := (an_t d0 d1 F w pl own) la) (R := (an_R (an_S (I 4) d0 d1 F plan pl) R la 0)) (a := 0) (K := K + 35) (fp_b_mono fp_b_0 (by omega)) k (fun k2 hk2 => hRb2 k2 (by omega)) (by omega)
              rw [← hy] at hacc
              refine gz_aload_n hC dX8_call_136 rfl ?_
              refine gz_getR (j := 21) hC dX8_call_137 cf_X8 fl_X8_51 rfl rfl (by decide) ?_
              refine gz_iload hC dX8_call_140 rfl ?_
              refine gz_aload_n hC dX8_call_142 rfl ?_
              refine gz_getR (j := 21) hC dX8_call_143 cf_X8 fl_X8_51 rfl rfl (by decide) ?_
              refine gz_iload hC dX8_call_146 rfl ?_
              refine gz_dald hC dX8_call_148 rfl (by rw [hx4]; exact vp_in_nI (by omega) (by decide)) ?_
              rw [show x4.toNatClampNeg = dp by rw [hx4, nI_clamp (by omega)]]
              refine gz_aload_n hC dX8_call_149 rfl ?_
              refine gz_getR (j := 18) hC dX8_call_150 cf_X8 fl_X8_42 rfl rfl (by decide) ?_
              refine gz_iconst hC (4) dX8_call_153 (by decide) ?_
              refine gz_iload hC dX8_call_154 rfl ?_
              refine gz_imul hC dX8_call_156 ?_
              refine gz_iconst hC (4) dX8_call_157 (by decide) ?_
              refine gz_iadd hC dX8_call_158 ?_
              refine gz_iload hC dX8_call_159 rfl ?_
              refine gz_iadd hC dX8_call_161 ?_
              refine gz_dald hC dX8_call_162 rfl (by rw [hx4, hx7, gz_n4, pk_mul, nI_add, nI_add]; exact vp_in_nI (by omega) (by decide)) ?_
              rw [show (4 * x4 + 4 + x7).toNatClampNeg = 4 * (dp + 1) + k by rw [hx4, hx7, gz_n4, pk_mul, nI_add, nI_add, nI_clamp (by omega)]; omega, (hg 8 _ (Or.inl (by decide))).trans (k1 k (by omega))]
              refine gz_dadd hC dX8_call_163 (fp_b_n64 (fp_b_add hacc (fp_b_mono (hRb2 k (by omega)) (by omega)) (by omega)) (by omega)) ?_
              refine gz_dast hC dX8_call_164 rfl (by rw [hx4]; exact vp_in_nI (by omega) (by decide)) ?_
              rw [show x4.toNatClampNeg = dp by rw [hx4, nI_clamp (by omega)]]
              refine gz_iinc hC (1) dX8_call_165 rfl (by decide) (by decide) ?_
              refine gz_goto hC 104 dX8_call_168 (by decide) ?_
              refine gz_lw [(0, .ref (ad 0)), (1, .int x1), (2, .int x2), (3, .int x3), (4, .int x4), (5, .int x5), (6, .int x6), (7, .int (x7 + 1))] ⟨rfl, rfl, rfl, rfl, rfl, rfl, rfl, rfl, trivial⟩ ?_
              exact ih (k + 1) _ _ (by omega) (gz_i1 hx7) (by rw [gz_up_self, hy]; show _ = cond ((an_t d0 d1 F w pl own) la k) _ _; rw [hb2]; rfl) (fun o j h => by by_cases e : o = 11; (subst e; exact (gz_up_oth (by omega)).trans (hg 11 j h)); exact (gz_up_at e).trans (hg o j h))
      exact gz_lw [(0, .ref (ad 0)), (1, .int x1), (2, .int x2), (3, .int x3), (4, .int x4), (5, .int x5), (6, .int x6), (7, .int 0)] ⟨rfl, rfl, rfl, rfl, rfl, rfl, rfl, rfl, trivial⟩ (lp (an_nO d0 d1 F pl) 0 J4 0 (by omega) rfl ((k2 11 dp (Or.inl (by decide))).trans h11) (fun _ _ _ => rfl))
  · exact absurd (hx5.symm.trans (c14.trans hx1)) (fun z => by have z2 := (nI_eq (by omega) (by omega)).mp z; omega)
  -- places not laid: [17, 18, 20, 21, 23, 25, 26, 29, 31, 32, 35, 36, 37, 39, 40, 42, 43, 46, 48, 49, 52, 55, 57, 58, 61, 62, 64, 65, 67, 68, 69, 70, 72, 75, 78, 79, 81, 83, 86, 106, 107, 110, 112, 113, 116, 117, 118, 120, 121, 123, 124, 127, 129, 130, 133, 136, 137, 140, 142, 143, 146, 148, 149, 150, 153, 154, 156, 157, 158, 159, 161, 162, 163, 164, 165, 168, 171]
set_option maxHeartbeats 4000000 in
set_option maxRecDepth 100000 in
theorem ct_X8_begin (hJ : gz_inj ad lm_lay) (I : Nat → Nat → Int32) (G : Nat → Nat → UInt64) (d0 d1 F : Nat) (w : Bool) (hO : cf_ok d0 d1 F) (hX : xm_tab d0 d1 F w I) (pl : Nat) (hp : pl < 2) (x1 : Int32) (hx1 : x1 = nI pl) : gz_Ct l D ad cy lm_lay yX8_begin cX8_begin 3 none 1 [.ref (ad 0), .int x1] (I, G) (fun v M1 => ∃ G1, v = none ∧ M1 = (gz_up (gz_up (gz_up (gz_up I 9 0 (-1)) 10 0 (-1)) 12 0 (-1)) 13 0 0, G1) ∧ G1 11 0 = 0 ∧ ∀ k, k < an_nO d0 d1 F pl → G1 8 (4 * 0 + k) = an_R0 d0 d1 F pl k) := by
  have hn4 : an_nO d0 d1 F pl ≤ 4 := (tb_facts (cf_okP hO (pl := 1 - pl) (by omega))).2.2.2.2.1
  refine gz_met (by decide +kernel) hJ (Nat.le_of_ble_eq_true rfl) ?_
  intro p e s m args below meth c hC
  refine gz_aload_n hC dX8_begin_0 rfl ?_
  refine gz_iconst hC (0) dX8_begin_1 (by decide) ?_
  refine gz_iconst hC (-1) dX8_begin_2 (by decide) ?_
  refine gz_callV2 hC dX8_begin_3 ml_X8_166 rfl rfl (by decide) (by decide) (Nat.le_of_ble_eq_true rfl) (ct_X8_enter hJ _ _ 0 (by decide) _ _ rfl) (fun v3 M3 hp3 => ?_)
  obtain ⟨rfl, rfl⟩ := hp3
  refine gz_iconst hC (0) dX8_begin_6 (by decide) ?_
  refine gz_istore_n hC dX8_begin_7 (by decide) ?_
  have hX2 : xm_tab d0 d1 F w (gz_up (gz_up (gz_up (gz_up I 9 0 (-1)) 10 0 (-1)) 12 0 (-1)) 13 0 0) := xm_tab_fr hX (fun _ _ => rfl) rfl rfl rfl
  have lp : ∀ (n k : Nat) (J : Nat → Nat → UInt64) (x2 : Int32) (hi : k + n = an_nO d0 d1 F pl) (hx2 : x2 = nI k) (h11 : J 11 0 = 0) (hdn : ∀ k2, k2 < k → J 8 k2 = an_R0 d0 d1 F pl k2), gz_W p l e (gz_rm 1) s m args below meth c D ad cy lm_lay 3 (MQ below (gz_Q D ad cy lm_lay (fun v M1 => ∃ G1, v = none ∧ M1 = (gz_up (gz_up (gz_up (gz_up I 9 0 (-1)) 10 0 (-1)) 12 0 (-1)) 13 0 0, G1) ∧ G1 11 0 = 0 ∧ ∀ k, k < an_nO d0 d1 F pl → G1 8 (4 * 0 + k) = an_R0 d0 d1 F pl k)) args s 0 0 (gz_A ad lm_lay)) (gz_up (gz_up (gz_up (gz_up I 9 0 (-1)) 10 0 (-1)) 12 0 (-1)) 13 0 0, J) 8 [(0, .ref (ad 0)), (1, .int x1), (2, .int x2)] [] := by
    intro n
    induction n with
    | zero =>
      intro k J x2 hi hx2 h11 hdn
      refine gz_iload_n hC dX8_begin_8 rfl ?_
      refine gz_aload_n hC dX8_begin_9 rfl ?_
      refine gz_getR (j := 5) hC dX8_begin_10 cf_X8 fl_X8_23 rfl rfl (by decide) ?_
      refine gz_iconst hC (1) dX8_begin_13 (by decide) ?_
      refine gz_iload_n hC dX8_begin_14 rfl ?_
      refine gz_isub hC dX8_begin_15 ?_
      refine gz_iald hC dX8_begin_16 rfl (by rw [hx1, gz_n1, pk_sub (by omega)]; exact vp_in_nI (by omega) (by decide)) ?_
      rw [show (1 - x1).toNatClampNeg = 1 - pl by rw [hx1, gz_n1, pk_sub (by omega), nI_clamp (by omega)]]
      rw [(xm_hP hX2 (show 1 - pl < 2 by omega)).1]
      refine gz_icmp_ge hC 45 dX8_begin_17 (by decide) (fun c17 => ?_) (fun c17 => ?_)
      · exact gz_vret hC dX8_begin_45 ⟨J, rfl, rfl, h11, fun k2 hk2 => by rw [Nat.mul_zero, Nat.zero_add]; exact hdn k2 (by omega)⟩
      · exact absurd (gz_ile (show nI (tb_n (tb_d d0 d1 (1 - pl)) F) = nI (an_nO d0 d1 F pl) from rfl) hx2 (by omega) (by omega)) c17
    | succ n ih =>
      intro k J x2 hi hx2 h11 hdn
      refine gz_iload_n hC dX8_begin_8 rfl ?_
      refine gz_aload_n hC dX8_begin_9 rfl ?_
      refine gz_getR (j := 5) hC dX8_begin_10 cf_X8 fl_X8_23 rfl rfl (by decide) ?_
      refine gz_iconst hC (1) dX8_begin_13 (by decide) ?_
      refine gz_iload_n hC dX8_begin_14 rfl ?_
      refine gz_isub hC dX8_begin_15 ?_
      refine gz_iald hC dX8_begin_16 rfl (by rw [hx1, gz_n1, pk_sub (by omega)]; exact vp_in_nI (by omega) (by decide)) ?_
      rw [show (1 - x1).toNatClampNeg = 1 - pl by rw [hx1, gz_n1, pk_sub (by omega), nI_clamp (by omega)]]
      rw [(xm_hP hX2 (show 1 - pl < 2 by omega)).1]
      refine gz_icmp_ge hC 45 dX8_begin_17 (by decide) (fun c17 => ?_) (fun c17 => ?_)
      · exact absurd c17 (gz_inle (show nI (tb_n (tb_d d0 d1 (1 - pl)) F) = nI (an_nO d0 d1 F pl) from rfl) hx2 (by omega) (by omega))
      · refine gz_aload_n hC dX8_begin_20 rfl ?_
        refine gz_getR (j := 18) hC dX8_begin_21 cf_X8 fl_X8_42 rfl rfl (by decide) ?_
        refine gz_iload_n hC dX8_begin_24 rfl ?_
        refine gz_aload_n hC dX8_begin_25 rfl ?_
        refine gz_getR (j := 6) hC dX8_begin_26 cf_X8 fl_X8_26 rfl rfl (by decide) ?_
        refine gz_iconst hC (4) dX8_begin_29 (by decide) ?_
        refine gz_iconst hC (1) dX8_begin_30 (by decide) ?_
        refine gz_iload_n hC dX8_begin_31 rfl ?_
        refine gz_isub hC dX8_begin_32 ?_
        refine gz_imul hC dX8_begin_33 ?_
        refine gz_iload_n hC dX8_begin_34 rfl ?_
        refine gz_iadd hC dX8_begin_35 ?_
        refine gz_iald hC dX8_begin_36 rfl (by rw [hx1, hx2, gz_n4, gz_n1, pk_sub (by omega), pk_mul, nI_add]; exact vp_in_nI (by omega) (by decide)) ?_
        rw [show (4 * (1 - x1) + x2).toNatClampNeg = 4 * (1 - pl) + k by rw [hx1, hx2, gz_n4, gz_n1, pk_sub (by omega), pk_mul, nI_add, nI_clamp (by omega)], (xm_hP hX2 (show 1 - pl < 2 by omega)).2.2 k (by unfold an_nO at hi; omega)]
        refine gz_i2d hC dX8_begin_37 ?_
        refine gz_dast hC dX8_begin_38 rfl (by rw [hx2]; exact vp_in_nI (by omega) (by decide)) ?_
        rw [show x2.toNatClampNeg = k by rw [hx2, nI_clamp (by omega)]]
        refine gz_iinc hC (1) dX8_begin_39 rfl (by decide) (by decide) ?_
        refine gz_goto hC 8 dX8_begin_42 (by decide) ?_
        refine gz_lw [(0, .ref (ad 0)), (1, .int x1), (2, .int (x2 + 1))] ⟨rfl, rfl, rfl, trivial⟩ ?_
        exact ih (k + 1) _ _ (by omega) (gz_i1 hx2) ((gz_up_at (by decide)).trans h11) (fun k2 hk2 => by by_cases e : k2 = k; (subst e; exact gz_up_self); exact (gz_up_oth e).trans (hdn k2 (by omega)))
  exact gz_lw [(0, .ref (ad 0)), (1, .int x1), (2, .int 0)] ⟨rfl, rfl, rfl, trivial⟩ (lp (an_nO d0 d1 F pl) 0 _ 0 (by omega) rfl gz_up_self (fun k2 h => absurd h (Nat.not_lt_zero k2)))
  -- places not laid: [9, 10, 13, 14, 15, 16, 17, 20, 21, 24, 25, 26, 29, 30, 31, 32, 33, 34, 35, 36, 37, 38, 39, 42, 45]
end CT
