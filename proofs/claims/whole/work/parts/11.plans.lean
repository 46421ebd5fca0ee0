/-! plans: weights by how many dice, hand, last bid, move -/
/-- the place of a weight; l and m are one above the last bid and the move -/
def tb_ix (plan dice h l m : Nat) : Nat := (((plan * 3 + dice - 1) * 4 + h) * 9 + l) * 9 + m
/-- may a move (one below m) follow a last bid (one below l) -/
def tb_mf (l m : Nat) : Bool := cond (decide (m = 0)) (!decide (l = 0)) (decide (l < m))
theorem tb_mf_eq : ∀ l, l < 10 → ∀ m, m < 10 → gz_mf (nI l - 1) (nI m - 1) = tb_mf l m := by decide +kernel
theorem nM_of {x : Int32} {l : Nat} (h : x + 1 = nI l) : x = nI l - 1 := by rw [← h, Int32.add_sub_cancel]
theorem nM_to {x : Int32} {l : Nat} (h : x = nI l - 1) : x + 1 = nI l := by rw [h, Int32.sub_add_cancel]
theorem nM_int {l : Nat} (h : l < 2 ^ 30) : (nI l - 1).toInt = (l : Int) - 1 := pk_sub_toInt (b := 1) h (by decide)
theorem nM_ge {x y : Int32} {l b : Nat} (hx : x = nI l - 1) (hy : y = nI b) (hl : l < 2 ^ 30) (hb : b < 2 ^ 30) (h : b + 1 ≤ l) : y ≤ x := by
  rw [Int32.le_iff_toInt_le, hx, hy, nM_int hl, nI_toInt (by omega)]
  omega
theorem nM_nge {x y : Int32} {l b : Nat} (hx : x = nI l - 1) (hy : y = nI b) (hl : l < 2 ^ 30) (hb : b < 2 ^ 30) (h : l < b + 1) : ¬ y ≤ x := by
  rw [Int32.le_iff_toInt_le, hx, hy, nM_int hl, nI_toInt (by omega)]
  omega
theorem nM_s {x : Int32} {l : Nat} (h : x = nI l - 1) : x + 1 = nI (l + 1) - 1 := by rw [nM_to h, nI_pred]
theorem nM_0 : (-1 : Int32) = nI 0 - 1 := by decide
theorem gz_mfN {x y : Int32} {l m : Nat} (hx : x = nI l - 1) (hy : y = nI m - 1) (hl : l < 10) (hm : m < 10) : gz_mf x y = tb_mf l m := by rw [hx, hy]; exact tb_mf_eq l hl m hm
theorem tb_ix_lt {plan dice h l m : Nat} (hp : plan < 4) (h1 : 1 ≤ dice) (h3 : dice ≤ 3) (hh : h < 4) (hl : l < 9) (hm : m < 9) : tb_ix plan dice h l m < 3888 := by unfold tb_ix; omega
/-- the weights mixed into a digest: moves, last bids, hands -/
def dg_m (wt : Nat → Int32) (plan dice h l : Nat) : Nat → Int64 → Int64
  | 0, a => a
  | m + 1, a => cond (tb_mf l m) (31 * dg_m wt plan dice h l m a + (wt (tb_ix plan dice h l m)).toInt64) (dg_m wt plan dice h l m a)
def dg_l (wt : Nat → Int32) (plan dice h bids : Nat) : Nat → Int64 → Int64
  | 0, a => a
  | l + 1, a => dg_m wt plan dice h l (bids + 1) (dg_l wt plan dice h bids l a)
def dg_h (wt : Nat → Int32) (plan dice bids : Nat) : Nat → Int64 → Int64
  | 0, a => a
  | h + 1, a => dg_l wt plan dice h bids (bids + 1) (dg_h wt plan dice bids h a)
theorem sp_bon_t {d0 d1 F : Nat} {b : Int32} (hO : cf_ok d0 d1 F) (h : sp_bon d0 d1 F b = true) : ∃ l : Nat, l < (d0 + d1) * F + 1 ∧ b = nI l - 1 := by
  unfold sp_bon at h
  rw [Bool.or_eq_true] at h
  rcases h with h | h
  · exact ⟨0, Nat.succ_pos _, (of_decide_eq_true h).trans nM_0⟩
  · obtain ⟨k, hk, rfl⟩ := sp_bid_t hO h
    exact ⟨k + 1, by omega, (nI_pred k).symm⟩
def sp_wok (d0 d1 F : Nat) (plan p h last move w0 : Int32) : Bool := gz_in plan 0 3 && (sp_hd d0 d1 F p h && (sp_bon d0 d1 F last && (sp_bon d0 d1 F move && (gz_mf last move && gz_in w0 0 20))))
def sp_wix (d0 d1 : Nat) (plan p h last move : Int32) : Nat := tb_ix plan.toNatClampNeg (tb_d d0 d1 p.toNatClampNeg) h.toNatClampNeg (last + 1).toNatClampNeg (move + 1).toNatClampNeg
section CT
variable {l : Launch} {D : va_G} {ad : Nat → Nat} {cy : Nat → ClassId}
set_option maxHeartbeats 4000000 in
set_option maxRecDepth 100000 in
theorem ct_X4_reset (hJ : gz_inj ad lx_lay) (I : Nat → Nat → Int32) (G : Nat → Nat → UInt64) : gz_Ct l D ad cy lx_lay yX4_reset cX4_reset 1 none 1 [.ref (ad 11)] (I, G) (fun v M1 => v = none ∧ M1 = (gz_fi I 12 3888 1, G)) := by
  refine gz_met (by decide +kernel) hJ (Nat.le_of_ble_eq_true rfl) ?_
  intro p e s m args below meth c hC
  refine gz_aload_n hC dX4_reset_0 rfl ?_
  refine gz_getR (j := 0) hC dX4_reset_1 cf_X4 fl_X4_9 rfl rfl (by decide) ?_
  refine gz_iconst hC (1) dX4_reset_4 (by decide) ?_
  refine gz_callS2 hC dX4_reset_5 ml_X4_15 (by decide) (by decide) (Nat.le_of_ble_eq_true rfl) (ct_J7_fill_53178 hJ _ _ 12 3888 rfl (by decide) _) (fun v5 M5 hp5 => ?_)
  obtain ⟨rfl, rfl⟩ := hp5
  exact gz_vret hC dX4_reset_8 ⟨rfl, rfl⟩
set_option maxHeartbeats 4000000 in
set_option maxRecDepth 100000 in
theorem ct_X4_spot (hJ : gz_inj ad lx_lay) (I : Nat → Nat → Int32) (G : Nat → Nat → UInt64) (plan dice h lb mb : Nat) (x1 x2 x3 x4 x5 : Int32) (hx1 : x1 = nI plan) (hx2 : x2 = nI dice) (hx3 : x3 = nI h) (hx4 : x4 = nI lb - 1) (hx5 : x5 = nI mb - 1) (hd : 1 ≤ dice) : gz_Ct l D ad cy lx_lay yX4_spot cX4_spot 7 (some .int) 0 [.ref (ad 11), .int x1, .int x2, .int x3, .int x4, .int x5] (I, G) (fun v M1 => v = some (.int (nI (tb_ix plan dice h lb mb))) ∧ M1 = (I, G)) := by
  refine gz_met (by decide +kernel) hJ (Nat.le_of_ble_eq_true rfl) ?_
  intro p e s m args below meth c hC
  refine gz_iload_n hC dX4_spot_0 rfl ?_
  refine gz_iconst hC (3) dX4_spot_1 (by decide) ?_
  refine gz_imul hC dX4_spot_2 ?_
  refine gz_iload_n hC dX4_spot_3 rfl ?_
  refine gz_iadd hC dX4_spot_4 ?_
  refine gz_iconst hC (1) dX4_spot_5 (by decide) ?_
  refine gz_isub hC dX4_spot_6 ?_
  refine gz_iconst hC (4) dX4_spot_7 (by decide) ?_
  refine gz_imul hC dX4_spot_8 ?_
  refine gz_iload_n hC dX4_spot_9 rfl ?_
  refine gz_iadd hC dX4_spot_10 ?_
  refine gz_istore hC dX4_spot_11 (by decide) ?_
  refine gz_iload hC dX4_spot_13 rfl ?_
  refine gz_bipush hC (9) dX4_spot_15 (by decide) ?_
  refine gz_imul hC dX4_spot_17 ?_
  refine gz_iload hC dX4_spot_18 rfl ?_
  refine gz_iadd hC dX4_spot_20 ?_
  refine gz_iconst hC (1) dX4_spot_21 (by decide) ?_
  refine gz_iadd hC dX4_spot_22 ?_
  refine gz_bipush hC (9) dX4_spot_23 (by decide) ?_
  refine gz_imul hC dX4_spot_25 ?_
  refine gz_iload hC dX4_spot_26 rfl ?_
  refine gz_iadd hC dX4_spot_28 ?_
  refine gz_iconst hC (1) dX4_spot_29 (by decide) ?_
  refine gz_iadd hC dX4_spot_30 ?_
  exact gz_iret hC dX4_spot_31 ⟨gz_v (by rw [Int32.add_assoc _ x4 1, Int32.add_assoc _ x5 1, nM_to hx4, nM_to hx5, hx1, hx2, hx3, gz_n3, gz_n4, gz_n9, pk_mul, nI_add, show nI (plan * 3 + dice) - 1 = nI (plan * 3 + dice - 1) from pk_sub (b := 1) (by omega), pk_mul, nI_add, pk_mul, nI_add, pk_mul, nI_add]; rfl), rfl⟩
set_option maxHeartbeats 4000000 in
set_option maxRecDepth 100000 in
theorem ct_X4_change (hJ : gz_inj ad lx_lay) (I : Nat → Nat → Int32) (G : Nat → Nat → UInt64) (j : Nat) (x1 x2 : Int32) (hx1 : x1 = nI j) (hj : j < 3888) : gz_Ct l D ad cy lx_lay yX4_change cX4_change 4 (some .int) 1 [.ref (ad 11), .int x1, .int x2] (I, G) (fun v M1 => v = some (.int (I 12 j)) ∧ M1 = (gz_up I 12 j x2, G)) := by
  refine gz_met (by decide +kernel) hJ (Nat.le_of_ble_eq_true rfl) ?_
  intro p e s m args below meth c hC
  refine gz_aload_n hC dX4_change_0 rfl ?_
  refine gz_getR (j := 0) hC dX4_change_1 cf_X4 fl_X4_9 rfl rfl (by decide) ?_
  refine gz_iload_n hC dX4_change_4 rfl ?_
  refine gz_callSN2 hC dX4_change_5 ml_X4_21 (by decide) (by decide) (Nat.le_of_ble_eq_true rfl) (ct_X7_at hJ _ _ 12 3888 j rfl (by omega) _ hx1 hj) (fun v5 M5 hp5 => ?_)
  obtain ⟨rfl, rfl⟩ := hp5
  refine gz_istore_n hC dX4_change_8 (by decide) ?_
  refine gz_aload_n hC dX4_change_9 rfl ?_
  refine gz_getR (j := 0) hC dX4_change_10 cf_X4 fl_X4_9 rfl rfl (by decide) ?_
  refine gz_iload_n hC dX4_change_13 rfl ?_
  refine gz_iload_n hC dX4_change_14 rfl ?_
  refine gz_callSN3 hC dX4_change_15 ml_X4_25 (by decide) (by decide) (Nat.le_of_ble_eq_true rfl) (ct_X7_put hJ _ _ 12 3888 j rfl (by omega) _ _ hx1 hj) (fun v15 M15 hp15 => ?_)
  obtain ⟨rfl, rfl⟩ := hp15
  refine gz_iload_n hC dX4_change_18 rfl ?_
  exact gz_iret hC dX4_change_19 ⟨rfl, rfl⟩
set_option maxHeartbeats 4000000 in
set_option maxRecDepth 100000 in
theorem ct_X4_weightAt (hJ : gz_inj ad lx_lay) (I : Nat → Nat → Int32) (G : Nat → Nat → UInt64) (j : Nat) (x1 : Int32) (hx1 : x1 = nI j) (hj : j < 3888) : gz_Ct l D ad cy lx_lay yX4_weightAt cX4_weightAt 2 (some .int) 1 [.ref (ad 11), .int x1] (I, G) (fun v M1 => v = some (.int (I 12 j)) ∧ M1 = (I, G)) := by
  refine gz_met (by decide +kernel) hJ (Nat.le_of_ble_eq_true rfl) ?_
  intro p e s m args below meth c hC
  refine gz_aload_n hC dX4_weightAt_0 rfl ?_
  refine gz_getR (j := 0) hC dX4_weightAt_1 cf_X4 fl_X4_9 rfl rfl (by decide) ?_
  refine gz_iload_n hC dX4_weightAt_4 rfl ?_
  refine gz_callSN2 hC dX4_weightAt_5 ml_X4_21 (by decide) (by decide) (Nat.le_of_ble_eq_true rfl) (ct_X7_at hJ _ _ 12 3888 j rfl (by omega) _ hx1 hj) (fun v5 M5 hp5 => ?_)
  obtain ⟨rfl, rfl⟩ := hp5
  exact gz_iret hC dX4_weightAt_8 ⟨rfl, rfl⟩
set_option maxHeartbeats 4000000 in
set_option maxRecDepth 100000 in
theorem ct_X4_mix (hJ : gz_inj ad lx_lay) (I : Nat → Nat → Int32) (G : Nat → Nat → UInt64) (k : Nat) (hK : lx_cup k) (d F bids plan : Nat) (hT : tb_ok d F) (hc : xi_cup k d F I) (a0 : Int64) (x3 x5 : Int32) (hx3 : x3 = nI plan) (hx5 : x5 = nI bids) (hpl : plan < 4) (hbd : bids ≤ 8) : gz_Ct l D ad cy lx_lay yX4_mix cX4_mix 11 (some .long) 2 [.ref (ad 11), .long a0, .int x3, .ref (ad k), .int x5] (I, G) (fun v M1 => v = some (.long (dg_h (I 12) plan d bids (tb_n d F) a0)) ∧ M1 = (I, G)) := by
  obtain ⟨T1, T2, T3, T4, T5, T6, T7, T8, T9⟩ := tb_facts hT
  refine gz_met (by decide +kernel) hJ (Nat.le_of_ble_eq_true rfl) ?_
  intro p e s m args below meth c hC
  refine gz_lload_n hC dX4_mix_0 rfl ?_
  refine gz_lstore hC dX4_mix_1 (by decide) ?_
  refine gz_iconst hC (0) dX4_mix_3 (by decide) ?_
  refine gz_istore hC dX4_mix_4 (by decide) ?_
  have lp1 : ∀ (n1 h : Nat) (y : Int64) (x8 : Int32) (hi1 : h + n1 = tb_n d F) (hx8 : x8 = nI h) (hy : y = dg_h (I 12) plan d bids h a0), gz_W p l e (gz_rm 2) s m args below meth c D ad cy lx_lay 11 (MQ below (gz_Q D ad cy lx_lay (fun v M1 => v = some (.long (dg_h (I 12) plan d bids (tb_n d F) a0)) ∧ M1 = (I, G))) args s 0 0 (gz_A ad lx_lay)) (I, G) 6 [(0, .ref (ad 11)), (1, .long a0), (3, .int x3), (4, .ref (ad k)), (5, .int x5), (6, .long y), (8, .int x8)] [] := by
    intro n1
    induction n1 with
    | zero =>
      intro h y x8 hi1 hx8 hy
      refine gz_iload hC dX4_mix_6 rfl ?_
      refine gz_aload hC dX4_mix_8 rfl ?_
      refine gz_getIN (j := 5) hC dX4_mix_10 cf_X1 fl_X4_29 hK.1 rfl (by decide) ?_
      refine gz_icmp_ge hC 94 dX4_mix_13 (by decide) (fun c13 => ?_) (fun c13 => ?_)
      · refine gz_lload hC dX4_mix_94 rfl ?_
        exact gz_lret hC dX4_mix_96 ⟨by rw [hy, show h = tb_n d F by omega], rfl⟩
      · exact absurd (gz_ile hc.2.2.1 hx8 (by omega) (by omega)) c13
    | succ n1 ih1 =>
      intro h y x8 hi1 hx8 hy
      refine gz_iload hC dX4_mix_6 rfl ?_
      refine gz_aload hC dX4_mix_8 rfl ?_
      refine gz_getIN (j := 5) hC dX4_mix_10 cf_X1 fl_X4_29 hK.1 rfl (by decide) ?_
      refine gz_icmp_ge hC 94 dX4_mix_13 (by decide) (fun c13 => ?_) (fun c13 => ?_)
      · exact absurd c13 (gz_inle hc.2.2.1 hx8 (by omega) (by omega))
      · refine gz_iconst hC (-1) dX4_mix_16 (by decide) ?_
        refine gz_istore hC dX4_mix_17 (by decide) ?_
        have lp2 : ∀ (n2 lb : Nat) (y : Int64) (x9 : Int32) (hi2 : lb + n2 = bids + 1) (hx9 : x9 = nI lb - 1) (hy : y = dg_l (I 12) plan d h bids lb (dg_h (I 12) plan d bids h a0)), gz_W p l e (gz_rm 2) s m args below meth c D ad cy lx_lay 11 (MQ below (gz_Q D ad cy lx_lay (fun v M1 => v = some (.long (dg_h (I 12) plan d bids (tb_n d F) a0)) ∧ M1 = (I, G))) args s 0 0 (gz_A ad lx_lay)) (I, G) 19 [(0, .ref (ad 11)), (1, .long a0), (3, .int x3), (4, .ref (ad k)), (5, .int x5), (6, .long y), (8, .int x8), (9, .int x9)] [] := by
          intro n2
          induction n2 with
          | zero =>
            intro lb y x9 hi2 hx9 hy
            refine gz_iload hC dX4_mix_19 rfl ?_
            refine gz_iload hC dX4_mix_21 rfl ?_
            refine gz_icmp_ge hC 88 dX4_mix_23 (by decide) (fun c23 => ?_) (fun c23 => ?_)
            · refine gz_iinc hC (1) dX4_mix_88 rfl (by decide) (by decide) ?_
              refine gz_goto hC 6 dX4_mix_91 (by decide) ?_
              refine gz_lw [(0, .ref (ad 11)), (1, .long a0), (3, .int x3), (4, .ref (ad k)), (5, .int x5), (6, .long y), (8, .int (x8 + 1))] ⟨rfl, rfl, rfl, rfl, rfl, rfl, rfl, trivial⟩ ?_
              exact ih1 (h + 1) _ _ (by omega) (gz_i1 hx8) (by rw [hy, show lb = bids + 1 by omega]; rfl)
            · exact absurd (nM_ge hx9 hx5 (by omega) (by omega) (by omega)) c23
          | succ n2 ih2 =>
            intro lb y x9 hi2 hx9 hy
            refine gz_iload hC dX4_mix_19 rfl ?_
            refine gz_iload hC dX4_mix_21 rfl ?_
            refine gz_icmp_ge hC 88 dX4_mix_23 (by decide) (fun c23 => ?_) (fun c23 => ?_)
            · exact absurd c23 (nM_nge hx9 hx5 (by omega) (by omega) (by omega))
            · refine gz_iconst hC (-1) dX4_mix_26 (by decide) ?_
              refine gz_istore hC dX4_mix_27 (by decide) ?_
              have lp3 : ∀ (n3 mb : Nat) (y : Int64) (x10 : Int32) (hi3 : mb + n3 = bids + 1) (hx10 : x10 = nI mb - 1) (hy : y = dg_m (I 12) plan d h lb mb (dg_l (I 12) plan d h bids lb (dg_h (I 12) plan d bids h a0))), gz_W p l e (gz_rm 2) s m args below meth c D ad cy lx_lay 11 (MQ below (gz_Q D ad cy lx_lay (fun v M1 => v = some (.long (dg_h (I 12) plan d bids (tb_n d F) a0)) ∧ M1 = (I, G))) args s 0 0 (gz_A ad lx_lay)) (I, G) 29 [(0, .ref (ad 11)), (1, .long a0), (3, .int x3), (4, .ref (ad k)), (5, .int x5), (6, .long y), (8, .int x8), (9, .int x9), (10, .int x10)] [] := by
                intro n3
                induction n3 with
                | zero =>
                  intro mb y x10 hi3 hx10 hy
                  refine gz_iload hC dX4_mix_29 rfl ?_
                  refine gz_iload hC dX4_mix_31 rfl ?_
                  refine gz_icmp_ge hC 82 dX4_mix_33 (by decide) (fun c33 => ?_) (fun c33 => ?_)
                  · refine gz_iinc hC (1) dX4_mix_82 rfl (by decide) (by decide) ?_
                    refine gz_goto hC 19 dX4_mix_85 (by decide) ?_
                    refine gz_lw [(0, .ref (ad 11)), (1, .long a0), (3, .int x3), (4, .ref (ad k)), (5, .int x5), (6, .long y), (8, .int x8), (9, .int (x9 + 1))] ⟨rfl, rfl, rfl, rfl, rfl, rfl, rfl, rfl, trivial⟩ ?_
                    exact ih2 (lb + 1) _ _ (by omega) (nM_s hx9) (by rw [hy, show mb = bids + 1 by omega]; rfl)
                  · exact absurd (nM_ge hx10 hx5 (by omega) (by omega) (by omega)) c33
                | succ n3 ih3 =>
                  intro mb y x10 hi3 hx10 hy
                  refine gz_iload hC dX4_mix_29 rfl ?_
                  refine gz_iload hC dX4_mix_31 rfl ?_
                  refine gz_icmp_ge hC 82 dX4_mix_33 (by decide) (fun c33 => ?_) (fun c33 => ?_)
                  · exact absurd c33 (nM_nge hx10 hx5 (by omega) (by omega) (by omega))
                  · refine gz_iload hC dX4_mix_36 rfl ?_
                    refine gz_iload hC dX4_mix_38 rfl ?_
                    refine gz_callSN2 hC dX4_mix_40 ml_X4_35 (by decide) (by decide) (Nat.le_of_ble_eq_true rfl) (ct_X7_mayFollow hJ _ _ _ _) (fun v40 M40 hp40 => ?_)
                    obtain ⟨rfl, rfl⟩ := hp40
                    rw [gz_mfN hx9 hx10 (by omega) (by omega)]
                    refine gz_if_eq hC 76 dX4_mix_43 (by decide) (fun c43 => ?_) (fun c43 => ?_)
                    · have hb := gz_b0 c43
                      refine gz_iinc hC (1) dX4_mix_76 rfl (by decide) (by decide) ?_
                      refine gz_goto hC 29 dX4_mix_79 (by decide) ?_
                      first
                        | (have hb0 : tb_mf lb mb = true := hb
                           refine gz_lw [(0, .ref (ad 11)), (1, .long a0), (3, .int x3), (4, .ref (ad k)), (5, .int x5), (6, .long (31 * y + (I 12 (tb_ix plan d h lb mb)).toInt64)), (8, .int x8), (9, .int x9), (10, .int (x10 + 1))] ⟨rfl, rfl, rfl, rfl, rfl, rfl, rfl, rfl, rfl, trivial⟩ ?_
                           exact ih3 (mb + 1) _ _ (by omega) (nM_s hx10) (by rw [hy]; show _ = cond (tb_mf lb mb) _ _; rw [hb0]; rfl)
                           done)
                        | (have hb0 : tb_mf lb mb = false := hb
                           refine gz_lw [(0, .ref (ad 11)), (1, .long a0), (3, .int x3), (4, .ref (ad k)), (5, .int x5), (6, .long y), (8, .int x8), (9, .int x9), (10, .int (x10 + 1))] ⟨rfl, rfl, rfl, rfl, rfl, rfl, rfl, rfl, rfl, trivial⟩ ?_
                           exact ih3 (mb + 1) _ _ (by omega) (nM_s hx10) (by rw [hy]; show _ = cond (tb_mf lb mb) _ _; rw [hb0]; rfl)
                           done)
                    · have hb := gz_b1 c43
                      refine gz_ldc2l hC dX4_mix_46 kc_X4_39 ?_
                      refine gz_lload hC dX4_mix_49 rfl ?_
                      refine gz_lmul hC dX4_mix_51 ?_
                      refine gz_aload_n hC dX4_mix_52 rfl ?_
                      refine gz_aload_n hC dX4_mix_53 rfl ?_
                      refine gz_iload_n hC dX4_mix_54 rfl ?_
                      refine gz_aload hC dX4_mix_55 rfl ?_
                      refine gz_getIN (j := 3) hC dX4_mix_57 cf_X1 fl_X4_41 hK.1 rfl (by decide) ?_
                      refine gz_iload hC dX4_mix_60 rfl ?_
                      refine gz_iload hC dX4_mix_62 rfl ?_
                      refine gz_iload hC dX4_mix_64 rfl ?_
                      refine gz_callV5 hC dX4_mix_66 ml_X4_44 rfl rfl (by decide) (by decide) (Nat.le_of_ble_eq_true rfl) (ct_X4_spot hJ _ _ plan d h lb mb _ _ _ _ _ hx3 hc.1 hx8 hx9 hx10 (by omega)) (fun v66 M66 hp66 => ?_)
                      obtain ⟨rfl, rfl⟩ := hp66
                      refine gz_callV1 hC dX4_mix_69 ml_X4_48 rfl rfl (by decide) (by decide) (Nat.le_of_ble_eq_true rfl) (ct_X4_weightAt hJ _ _ (tb_ix plan d h lb mb) _ rfl (tb_ix_lt hpl (by omega) (by omega) (by omega) (by omega) (by omega))) (fun v69 M69 hp69 => ?_)
                      obtain ⟨rfl, rfl⟩ := hp69
                      refine gz_i2l hC dX4_mix_72 ?_
                      refine gz_ladd hC dX4_mix_73 ?_
                      refine gz_lstore hC dX4_mix_74 (by decide) ?_
                      refine gz_iinc hC (1) dX4_mix_76 rfl (by decide) (by decide) ?_
                      refine gz_goto hC 29 dX4_mix_79 (by decide) ?_
                      first
                        | (have hb0 : tb_mf lb mb = true := hb
                           refine gz_lw [(0, .ref (ad 11)), (1, .long a0), (3, .int x3), (4, .ref (ad k)), (5, .int x5), (6, .long (31 * y + (I 12 (tb_ix plan d h lb mb)).toInt64)), (8, .int x8), (9, .int x9), (10, .int (x10 + 1))] ⟨rfl, rfl, rfl, rfl, rfl, rfl, rfl, rfl, rfl, trivial⟩ ?_
                           exact ih3 (mb + 1) _ _ (by omega) (nM_s hx10) (by rw [hy]; show _ = cond (tb_mf lb mb) _ _; rw [hb0]; rfl)
                           done)
                        | (have hb0 : tb_mf lb mb = false := hb
                           refine gz_lw [(0, .ref (ad 11)), (1, .long a0), (3, .int x3), (4, .ref (ad k)), (5, .int x5), (6, .long y), (8, .int x8), (9, .int x9), (10, .int (x10 + 1))] ⟨rfl, rfl, rfl, rfl, rfl, rfl, rfl, rfl, rfl, trivial⟩ ?_
                           exact ih3 (mb + 1) _ _ (by omega) (nM_s hx10) (by rw [hy]; show _ = cond (tb_mf lb mb) _ _; rw [hb0]; rfl)
                           done)
              exact gz_lw [(0, .ref (ad 11)), (1, .long a0), (3, .int x3), (4, .ref (ad k)), (5, .int x5), (6, .long y), (8, .int x8), (9, .int x9), (10, .int (-1))] ⟨rfl, rfl, rfl, rfl, rfl, rfl, rfl, rfl, rfl, trivial⟩ (lp3 (bids + 1) 0 y (-1) (by omega) nM_0 hy)
        exact gz_lw [(0, .ref (ad 11)), (1, .long a0), (3, .int x3), (4, .ref (ad k)), (5, .int x5), (6, .long y), (8, .int x8), (9, .int (-1))] ⟨rfl, rfl, rfl, rfl, rfl, rfl, rfl, rfl, trivial⟩ (lp2 (bids + 1) 0 y (-1) (by omega) nM_0 hy)
  exact gz_lw [(0, .ref (ad 11)), (1, .long a0), (3, .int x3), (4, .ref (ad k)), (5, .int x5), (6, .long a0), (8, .int 0)] ⟨rfl, rfl, rfl, rfl, rfl, rfl, rfl, trivial⟩ (lp1 (tb_n d F) 0 a0 0 (by omega) rfl rfl)
  -- places not laid: [8, 10, 13, 16, 17, 19, 21, 23, 26, 27, 29, 31, 33, 36, 38, 40, 43, 46, 49, 51, 52, 53, 54, 55, 57, 60, 62, 64, 66, 69, 72, 73, 74, 76, 79, 82, 85, 88, 91, 94, 96]
set_option maxHeartbeats 4000000 in
set_option maxRecDepth 100000 in
theorem ct_X7_weigh (hJ : gz_inj ad lx_lay) (I : Nat → Nat → Int32) (G : Nat → Nat → UInt64) (d0 d1 F : Nat) (w : Bool) (hO : cf_ok d0 d1 F) (hX : xi_tab d0 d1 F w I) (a1 a2 a3 a4 a5 a6 : Int32) : gz_Ct l D ad cy lx_lay yX7_weigh cX7_weigh 7 (some .int) 3 [.ref (ad 0), .int a1, .int a2, .int a3, .int a4, .int a5, .int a6] (I, G) (fun v M1 => (sp_wok d0 d1 F a1 a2 a3 a4 a5 a6 = false ∧ v = some (.int (-2)) ∧ M1 = (I, G)) ∨ (sp_wok d0 d1 F a1 a2 a3 a4 a5 a6 = true ∧ sp_wix d0 d1 a1 a2 a3 a4 a5 < 3888 ∧ v = some (.int (I 12 (sp_wix d0 d1 a1 a2 a3 a4 a5))) ∧ M1 = (gz_up I 12 (sp_wix d0 d1 a1 a2 a3 a4 a5) a6, G))) := by
  refine gz_met (by decide +kernel) hJ (Nat.le_of_ble_eq_true rfl) ?_
  intro p e s m args below meth c hC
  refine gz_iload_n hC dX7_weigh_0 rfl ?_
  refine gz_callS1 hC dX7_weigh_1 ml_X7_112 (by decide) (by decide) (Nat.le_of_ble_eq_true rfl) (ct_X7_isPlan hJ _ _ _) (fun v1 M1 hp1 => ?_)
  obtain ⟨rfl, rfl⟩ := hp1
  refine gz_if_eq hC 25 dX7_weigh_4 (by decide) (fun c4 => ?_) (fun c4 => ?_)
  · have q1 := gz_b0 c4
    refine gz_bipush hC (-2) dX7_weigh_25 (by decide) ?_
    exact gz_iret hC dX7_weigh_27 (Or.inl ⟨by unfold sp_wok; first | (rw [q1, q2, q3, q4, q5, q6]; rfl) | (rw [q1, q2, q3, q4, q5]; rfl) | (rw [q1, q2, q3, q4]; rfl) | (rw [q1, q2, q3]; rfl) | (rw [q1, q2]; rfl) | (rw [q1]; rfl), rfl, rfl⟩)
  · have q1 := gz_b1 c4
    obtain ⟨plan, hplan, ha1⟩ := gz_in_t (n := 4) (by decide) (by decide) q1
    refine gz_aload_n hC dX7_weigh_7 rfl ?_
    refine gz_iload_n hC dX7_weigh_8 rfl ?_
    refine gz_iload_n hC dX7_weigh_9 rfl ?_
    refine gz_callV2 hC dX7_weigh_10 ml_X7_77 rfl rfl (by decide) (by decide) (Nat.le_of_ble_eq_true rfl) (ct_X7_isHand hJ _ _ d0 d1 F w hO hX _ _) (fun v10 M10 hp10 => ?_)
    obtain ⟨rfl, rfl⟩ := hp10
    refine gz_if_eq hC 25 dX7_weigh_13 (by decide) (fun c13 => ?_) (fun c13 => ?_)
    · have q2 := gz_b0 c13
      refine gz_bipush hC (-2) dX7_weigh_25 (by decide) ?_
      exact gz_iret hC dX7_weigh_27 (Or.inl ⟨by unfold sp_wok; first | (rw [q1, q2, q3, q4, q5, q6]; rfl) | (rw [q1, q2, q3, q4, q5]; rfl) | (rw [q1, q2, q3, q4]; rfl) | (rw [q1, q2, q3]; rfl) | (rw [q1, q2]; rfl) | (rw [q1]; rfl), rfl, rfl⟩)
    · have q2 := gz_b1 c13
      obtain ⟨pl, hh, hpl, hk, hp0, ha3⟩ := sp_hd_t hO q2
      have T := tb_facts (cf_okP hO hpl)
      have Bd := (cf_bids hO).2
      refine gz_aload_n hC dX7_weigh_16 rfl ?_
      refine gz_iload hC dX7_weigh_17 rfl ?_
      refine gz_callV1 hC dX7_weigh_19 ml_X7_115 rfl rfl (by decide) (by decide) (Nat.le_of_ble_eq_true rfl) (ct_X7_isBidOrNone hJ _ _ d0 d1 F w hO hX _) (fun v19 M19 hp19 => ?_)
      obtain ⟨rfl, rfl⟩ := hp19
      refine gz_if_ne hC 28 dX7_weigh_22 (by decide) (fun c22 => ?_) (fun c22 => ?_)
      · have q3 := gz_b1 c22
        obtain ⟨lb, hl, ha4⟩ := sp_bon_t hO q3
        refine gz_aload_n hC dX7_weigh_28 rfl ?_
        refine gz_iload hC dX7_weigh_29 rfl ?_
        refine gz_callV1 hC dX7_weigh_31 ml_X7_115 rfl rfl (by decide) (by decide) (Nat.le_of_ble_eq_true rfl) (ct_X7_isBidOrNone hJ _ _ d0 d1 F w hO hX _) (fun v31 M31 hp31 => ?_)
        obtain ⟨rfl, rfl⟩ := hp31
        refine gz_if_eq hC 58 dX7_weigh_34 (by decide) (fun c34 => ?_) (fun c34 => ?_)
        · have q4 := gz_b0 c34
          refine gz_bipush hC (-2) dX7_weigh_58 (by decide) ?_
          exact gz_iret hC dX7_weigh_60 (Or.inl ⟨by unfold sp_wok; first | (rw [q1, q2, q3, q4, q5, q6]; rfl) | (rw [q1, q2, q3, q4, q5]; rfl) | (rw [q1, q2, q3, q4]; rfl) | (rw [q1, q2, q3]; rfl) | (rw [q1, q2]; rfl) | (rw [q1]; rfl), rfl, rfl⟩)
        · have q4 := gz_b1 c34
          obtain ⟨m0, hm, ha5⟩ := sp_bon_t hO q4
          refine gz_iload hC dX7_weigh_37 rfl ?_
          refine gz_iload hC dX7_weigh_39 rfl ?_
          refine gz_callS2 hC dX7_weigh_41 ml_X7_118 (by decide) (by decide) (Nat.le_of_ble_eq_true rfl) (ct_X7_mayFollow hJ _ _ _ _) (fun v41 M41 hp41 => ?_)
          obtain ⟨rfl, rfl⟩ := hp41
          refine gz_if_eq hC 58 dX7_weigh_44 (by decide) (fun c44 => ?_) (fun c44 => ?_)
          · have q5 := gz_b0 c44
            refine gz_bipush hC (-2) dX7_weigh_58 (by decide) ?_
            exact gz_iret hC dX7_weigh_60 (Or.inl ⟨by unfold sp_wok; first | (rw [q1, q2, q3, q4, q5, q6]; rfl) | (rw [q1, q2, q3, q4, q5]; rfl) | (rw [q1, q2, q3, q4]; rfl) | (rw [q1, q2, q3]; rfl) | (rw [q1, q2]; rfl) | (rw [q1]; rfl), rfl, rfl⟩)
          · have q5 := gz_b1 c44
            refine gz_iload hC dX7_weigh_47 rfl ?_
            refine gz_iconst hC (0) dX7_weigh_49 (by decide) ?_
            refine gz_bipush hC (20) dX7_weigh_50 (by decide) ?_
            refine gz_callS3 hC dX7_weigh_52 ml_X7_50 (by decide) (by decide) (Nat.le_of_ble_eq_true rfl) (ct_X7_within hJ _ _ _ _ _) (fun v52 M52 hp52 => ?_)
            obtain ⟨rfl, rfl⟩ := hp52
            refine gz_if_ne hC 61 dX7_weigh_55 (by decide) (fun c55 => ?_) (fun c55 => ?_)
            · have q6 := gz_b1 c55
              refine gz_aload_n hC dX7_weigh_61 rfl ?_
              refine gz_getR (j := 1) hC dX7_weigh_62 cf_X7 fl_X7_19 rfl rfl (by decide) ?_
              refine gz_aload_n hC dX7_weigh_65 rfl ?_
              refine gz_getR (j := 1) hC dX7_weigh_66 cf_X7 fl_X7_19 rfl rfl (by decide) ?_
              refine gz_iload_n hC dX7_weigh_69 rfl ?_
              refine gz_aload_n hC dX7_weigh_70 rfl ?_
              refine gz_getR (j := 0) hC dX7_weigh_71 cf_X7 fl_X7_12 rfl rfl (by decide) ?_
              refine gz_iload_n hC dX7_weigh_74 rfl ?_
              refine gz_callV1 hC dX7_weigh_75 ml_X7_68 rfl rfl (by decide) (by decide) (Nat.le_of_ble_eq_true rfl) (ct_X6_cup hJ _ _ _ (3 + 4 * pl) (by rw [hp0]; match pl, hpl with | 0, _ => exact Or.inl ⟨rfl, rfl⟩ | 1, _ => exact Or.inr ⟨by decide, rfl⟩)) (fun v75 M75 hp75 => ?_)
              obtain ⟨rfl, rfl⟩ := hp75
              refine gz_getIN (j := 3) hC dX7_weigh_78 cf_X1 fl_X7_121 (lx_cupP hpl).1 rfl (by decide) ?_
              refine gz_iload_n hC dX7_weigh_81 rfl ?_
              refine gz_iload hC dX7_weigh_82 rfl ?_
              refine gz_iload hC dX7_weigh_84 rfl ?_
              have e9 : sp_wix d0 d1 a1 a2 a3 a4 a5 = tb_ix plan (tb_d d0 d1 pl) hh lb m0 := by unfold sp_wix; rw [nM_to ha4, nM_to ha5, ha1, hp0, ha3, nI_clamp (by omega), nI_clamp (by omega), nI_clamp (by omega), nI_clamp (by omega), nI_clamp (by omega)]
              have e8 := tb_ix_lt hplan T.2.2.2.2.2.2.2.1 T.2.2.2.2.2.1 (show hh < 4 by omega) (show lb < 9 by omega) (show m0 < 9 by omega)
              refine gz_callV5 hC dX7_weigh_86 ml_X7_124 rfl rfl (by decide) (by decide) (Nat.le_of_ble_eq_true rfl) (ct_X4_spot hJ _ _ plan (tb_d d0 d1 pl) hh lb m0 _ _ _ _ _ ha1 (xi_cupP hX hpl).1 ha3 ha4 ha5 T.2.2.2.2.2.2.2.1) (fun v86 M86 hp86 => ?_)
              obtain ⟨rfl, rfl⟩ := hp86
              refine gz_iload hC dX7_weigh_89 rfl ?_
              refine gz_callV2 hC dX7_weigh_91 ml_X7_128 rfl rfl (by decide) (by decide) (Nat.le_of_ble_eq_true rfl) (ct_X4_change hJ _ _ (tb_ix plan (tb_d d0 d1 pl) hh lb m0) _ _ rfl e8) (fun v91 M91 hp91 => ?_)
              obtain ⟨rfl, rfl⟩ := hp91
              exact gz_iret hC dX7_weigh_94 (Or.inr ⟨by unfold sp_wok; rw [q1, q2, q3, q4, q5, q6]; rfl, by rw [e9]; exact e8, by rw [e9], by rw [e9]⟩)
            · have q6 := gz_b0 c55
              refine gz_bipush hC (-2) dX7_weigh_58 (by decide) ?_
              exact gz_iret hC dX7_weigh_60 (Or.inl ⟨by unfold sp_wok; first | (rw [q1, q2, q3, q4, q5, q6]; rfl) | (rw [q1, q2, q3, q4, q5]; rfl) | (rw [q1, q2, q3, q4]; rfl) | (rw [q1, q2, q3]; rfl) | (rw [q1, q2]; rfl) | (rw [q1]; rfl), rfl, rfl⟩)
      · have q3 := gz_b0 c22
        refine gz_bipush hC (-2) dX7_weigh_25 (by decide) ?_
        exact gz_iret hC dX7_weigh_27 (Or.inl ⟨by unfold sp_wok; first | (rw [q1, q2, q3, q4, q5, q6]; rfl) | (rw [q1, q2, q3, q4, q5]; rfl) | (rw [q1, q2, q3, q4]; rfl) | (rw [q1, q2, q3]; rfl) | (rw [q1, q2]; rfl) | (rw [q1]; rfl), rfl, rfl⟩)
end CT
