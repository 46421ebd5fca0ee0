/-! two plans against one another: the table and the sum -/
theorem ev_t_ne {S : Nat → Nat → Nat → UInt64} {tt : Nat → Bool} {bids n la mv : Nat} (h : ¬ la = bids - n) : ev_t S tt bids (n + 1) la mv = ev_t S tt bids n la mv := if_neg h
theorem ev_t_eq {S : Nat → Nat → Nat → UInt64} {tt : Nat → Bool} {bids n la mv : Nat} (h : la = bids - n) : ev_t S tt bids (n + 1) la mv = ev_f (S mv la) (ev_V (decide (mv = 1) == tt (la - 1)) (fun q => ev_t S tt bids n q (1 - mv))) la (bids + 1) := if_pos h
theorem wo_S0 {wt : Nat → Int32} {d0 d1 F p q g h : Nat} : ∀ mv, mv < 2 → fp_pos (wo_S wt d0 d1 F p q g h mv 0 0) = false := by
  intro mv hmv
  have e : wo_S wt d0 d1 F p q g h mv 0 0 = 0 := by
    unfold wo_S sh_v
    split <;> rfl
  rw [e]
  decide +kernel
section CT
variable {l : Launch} {D : va_G} {ad : Nat → Nat} {cy : Nat → ClassId}
set_option maxHeartbeats 4000000 in
set_option maxRecDepth 100000 in
theorem ct_X3_expected (hJ : gz_inj ad lx_lay) (I : Nat → Nat → Int32) (G : Nat → Nat → UInt64) (d0 d1 F : Nat) (w : Bool) (hO : cf_ok d0 d1 F) (hX : xi_tab d0 d1 F w I) (g h : Nat) (x1 x2 : Int32) (hx1 : x1 = nI g) (hx2 : x2 = nI h) (hg : g < tb_n d0 F) (hh : h < tb_n d1 F) (S : Nat → Nat → Nat → UInt64) (h0 : ∀ la, la ≤ (d0 + d1) * F → ∀ q, q ≤ (d0 + d1) * F → G 15 ((g * 9 + la) * 9 + q) = S 0 la q) (h1 : ∀ la, la ≤ (d0 + d1) * F → ∀ q, q ≤ (d0 + d1) * F → G 17 ((h * 9 + la) * 9 + q) = S 1 la q) (hSb : ∀ mv, mv < 2 → ∀ la, la ≤ (d0 + d1) * F → ∀ q, q ≤ (d0 + d1) * F → fp_b 1057 (S mv la q)) (hS0 : ∀ mv, mv < 2 → fp_pos (S mv 0 0) = false) : gz_Ct l D ad cy lx_lay yX3_expected cX3_expected 5 (some .double) 4 [.ref (ad 13), .int x1, .int x2] (I, G) (fun v M1 => ∃ G1, v = some (.double (ev_t S (tb_t d0 d1 F w g h) ((d0 + d1) * F) (((d0 + d1) * F) + 1) 0 0)) ∧ M1 = (I, G1) ∧ ∀ o, o ≠ 18 → G1 o = G o) := by
  obtain ⟨T1, T2, T3, T4, T5, T6, T7, T8, T9⟩ := tb_facts hO.1
  obtain ⟨U1, U2, U3, U4, U5, U6, U7, U8, U9⟩ := tb_facts hO.2.1
  have Bd := cf_bids hO
  refine gz_met (by decide +kernel) hJ (Nat.le_of_ble_eq_true rfl) ?_
  intro p e s m args below meth c hC
  refine gz_aload_n hC dX3_expected_0 rfl ?_
  refine gz_getR (j := 0) hC dX3_expected_1 cf_X3 fl_X3_25 rfl rfl (by decide) ?_
  refine gz_getIN (j := 4) hC dX3_expected_4 cf_X6 fl_X3_35 rfl rfl (by decide) ?_
  rw [hX.2.1]
  refine gz_iconst hC (1) dX3_expected_7 (by decide) ?_
  refine gz_isub hC dX3_expected_8 ?_
  refine gz_istore_n hC dX3_expected_9 (by decide) ?_
  have lp : ∀ (j : Nat) (hj : j ≤ ((d0 + d1) * F)) (J : Nat → Nat → UInt64) (x3 : Int32) (z1 : j = 0 → x3 = -1) (z2 : ∀ i, j = i + 1 → x3 = nI i) (ho : ∀ o, o ≠ 18 → J o = G o) (hT : ∀ q, j < q → q ≤ ((d0 + d1) * F) → ∀ mv, mv < 2 → J 18 ((q - 1) * 2 + mv) = ev_t S (tb_t d0 d1 F w g h) ((d0 + d1) * F) (((d0 + d1) * F) - j) q mv), gz_W p l e (gz_rm 4) s m args below meth c D ad cy lx_lay 5 (MQ below (gz_Q D ad cy lx_lay (fun v M1 => ∃ G1, v = some (.double (ev_t S (tb_t d0 d1 F w g h) ((d0 + d1) * F) (((d0 + d1) * F) + 1) 0 0)) ∧ M1 = (I, G1) ∧ ∀ o, o ≠ 18 → G1 o = G o)) args s 0 0 (gz_A ad lx_lay)) (I, J) 10 [(0, .ref (ad 13)), (1, .int x1), (2, .int x2), (3, .int x3)] [] := by
    intro j
    induction j with
    | zero =>
      intro hj J x3 z1 z2 ho hT
      rw [Nat.sub_zero] at hT
      refine gz_iload_n hC dX3_expected_10 rfl ?_
      refine gz_if_lt hC 57 dX3_expected_11 (by decide) (fun c11 => ?_) (fun c11 => ?_)
      · refine gz_aload_n hC dX3_expected_57 rfl ?_
        refine gz_iload_n hC dX3_expected_58 rfl ?_
        refine gz_iload_n hC dX3_expected_59 rfl ?_
        refine gz_iconst hC (-1) dX3_expected_60 (by decide) ?_
        refine gz_iconst hC (0) dX3_expected_61 (by decide) ?_
        refine gz_callV4 hC dX3_expected_62 ml_X3_60 rfl rfl (by decide) (by decide) (Nat.le_of_ble_eq_true rfl) (ct_X3_expectedAt hJ _ _ d0 d1 F w hO hX g h 0 0 (1024 + 53 * ((d0 + d1) * F)) _ _ _ _ hx1 hx2 nM_0 rfl hg hh (by omega) (by omega) S (fun l2 hl2 q hq => by rw [ho 15 (by decide)]; exact h0 l2 hl2 q hq) (fun l2 hl2 q hq => by rw [ho 17 (by decide)]; exact h1 l2 hl2 q hq) hSb hS0 (fun q => ev_t S (tb_t d0 d1 F w g h) ((d0 + d1) * F) ((d0 + d1) * F) q (1 - 0)) (by omega) (by omega) (fun q hq1 hq2 => ⟨hT q hq1 hq2 _ (by omega), ev_t_b (by omega) hSb ((d0 + d1) * F) (by omega) q hq2 _ (by omega)⟩)) (fun v62 M62 hp62 => ?_)
        obtain ⟨rfl, rfl⟩ := hp62
        exact gz_dret hC dX3_expected_65 ⟨J, by rw [ev_t_eq (show 0 = ((d0 + d1) * F) - ((d0 + d1) * F) by omega)], rfl, ho⟩
      · exact absurd (by rw [z1 rfl]; decide) c11
    | succ i ih =>
      intro hj J x3 z1 z2 ho hT
      have hx3 := z2 i rfl
      refine gz_iload_n hC dX3_expected_10 rfl ?_
      refine gz_if_lt hC 57 dX3_expected_11 (by decide) (fun c11 => ?_) (fun c11 => ?_)
      · exact absurd c11 (by rw [hx3]; exact nI_pos (by omega))
      · refine gz_iconst hC (0) dX3_expected_14 (by decide) ?_
        refine gz_istore hC dX3_expected_15 (by decide) ?_
        have lp2 : ∀ (n2 mv : Nat) (J : Nat → Nat → UInt64) (x4 : Int32) (hi2 : mv + n2 = 2) (hx4 : x4 = nI mv) (ho : ∀ o, o ≠ 18 → J o = G o) (hT : ∀ q, (i + 1) < q → q ≤ ((d0 + d1) * F) → ∀ mv, mv < 2 → J 18 ((q - 1) * 2 + mv) = ev_t S (tb_t d0 d1 F w g h) ((d0 + d1) * F) ((d0 + d1) * F - (i + 1)) q mv) (hD : ∀ m2, m2 < mv → J 18 ((i + 1 - 1) * 2 + m2) = ev_t S (tb_t d0 d1 F w g h) ((d0 + d1) * F) (((d0 + d1) * F - (i + 1)) + 1) (i + 1) m2), gz_W p l e (gz_rm 4) s m args below meth c D ad cy lx_lay 5 (MQ below (gz_Q D ad cy lx_lay (fun v M1 => ∃ G1, v = some (.double (ev_t S (tb_t d0 d1 F w g h) ((d0 + d1) * F) (((d0 + d1) * F) + 1) 0 0)) ∧ M1 = (I, G1) ∧ ∀ o, o ≠ 18 → G1 o = G o)) args s 0 0 (gz_A ad lx_lay)) (I, J) 17 [(0, .ref (ad 13)), (1, .int x1), (2, .int x2), (3, .int x3), (4, .int x4)] [] := by
          intro n2
          induction n2 with
          | zero =>
            intro mv J x4 hi2 hx4 ho hT hD
            refine gz_iload hC dX3_expected_17 rfl ?_
            refine gz_iconst hC (2) dX3_expected_19 (by decide) ?_
            refine gz_icmp_ge hC 51 dX3_expected_20 (by decide) (fun c20 => ?_) (fun c20 => ?_)
            · refine gz_iinc hC (-1) dX3_expected_51 rfl (by decide) (by decide) ?_
              refine gz_goto hC 10 dX3_expected_54 (by decide) ?_
              refine gz_lw [(0, .ref (ad 13)), (1, .int x1), (2, .int x2), (3, .int (x3 + (-1)))] ⟨rfl, rfl, rfl, rfl, trivial⟩ ?_
              exact ih (by omega) J (x3 + (-1)) (fun e => by subst e; rw [hx3]; rfl) (fun q hq => by subst hq; rw [hx3]; exact pk_m1 q) ho (fun q hq1 hq2 mv hmv => by
                rw [show ((d0 + d1) * F) - i = ((d0 + d1) * F - (i + 1)) + 1 by omega]
                by_cases e : q = i + 1
                · subst e; exact hD mv (by omega)
                · rw [ev_t_ne (by omega)]; exact hT q (by omega) hq2 mv hmv)
            · exact absurd (gz_ile gz_n2 hx4 (by omega) (by omega)) c20
          | succ n2 ih2 =>
            intro mv J x4 hi2 hx4 ho hT hD
            refine gz_iload hC dX3_expected_17 rfl ?_
            refine gz_iconst hC (2) dX3_expected_19 (by decide) ?_
            refine gz_icmp_ge hC 51 dX3_expected_20 (by decide) (fun c20 => ?_) (fun c20 => ?_)
            · exact absurd c20 (gz_inle gz_n2 hx4 (by omega) (by omega))
            · refine gz_aload_n hC dX3_expected_23 rfl ?_
              refine gz_getR (j := 3) hC dX3_expected_24 cf_X3 fl_X3_21 rfl rfl (by decide) ?_
              refine gz_iload_n hC dX3_expected_27 rfl ?_
              refine gz_iconst hC (2) dX3_expected_28 (by decide) ?_
              refine gz_imul hC dX3_expected_29 ?_
              refine gz_iload hC dX3_expected_30 rfl ?_
              refine gz_iadd hC dX3_expected_32 ?_
              refine gz_aload_n hC dX3_expected_33 rfl ?_
              refine gz_iload_n hC dX3_expected_34 rfl ?_
              refine gz_iload_n hC dX3_expected_35 rfl ?_
              refine gz_iload_n hC dX3_expected_36 rfl ?_
              refine gz_iload hC dX3_expected_37 rfl ?_
              refine gz_callV4 hC dX3_expected_39 ml_X3_60 rfl rfl (by decide) (by decide) (Nat.le_of_ble_eq_true rfl) (ct_X3_expectedAt hJ _ _ d0 d1 F w hO hX g h (i + 1) mv (1024 + 53 * ((d0 + d1) * F - (i + 1))) _ _ _ _ hx1 hx2 (by rw [hx3]; exact (nI_pred i).symm) hx4 hg hh (by omega) (by omega) S (fun l2 hl2 q hq => by rw [ho 15 (by decide)]; exact h0 l2 hl2 q hq) (fun l2 hl2 q hq => by rw [ho 17 (by decide)]; exact h1 l2 hl2 q hq) hSb hS0 (fun q => ev_t S (tb_t d0 d1 F w g h) ((d0 + d1) * F) ((d0 + d1) * F - (i + 1)) q (1 - mv)) (by omega) (by omega) (fun q hq1 hq2 => ⟨hT q hq1 hq2 _ (by omega), ev_t_b (by omega) hSb ((d0 + d1) * F - (i + 1)) (by omega) q hq2 _ (by omega)⟩)) (fun v39 M39 hp39 => ?_)
              obtain ⟨rfl, rfl⟩ := hp39
              refine gz_callSN3 hC dX3_expected_42 ml_X3_64 (by decide) (by decide) (Nat.le_of_ble_eq_true rfl) (ct_X7_putReal hJ _ _ 18 16 (i * 2 + mv) rfl (by decide) _ _ (by rw [hx3, hx4, gz_n2, pk_mul, nI_add]) (by omega)) (fun v42 M42 hp42 => ?_)
              obtain ⟨rfl, rfl⟩ := hp42
              refine gz_iinc hC (1) dX3_expected_45 rfl (by decide) (by decide) ?_
              refine gz_goto hC 17 dX3_expected_48 (by decide) ?_
              refine gz_lw [(0, .ref (ad 13)), (1, .int x1), (2, .int x2), (3, .int x3), (4, .int (x4 + 1))] ⟨rfl, rfl, rfl, rfl, rfl, trivial⟩ ?_
              exact ih2 (mv + 1) _ _ (by omega) (gz_i1 hx4) (fun o h9 => (gz_up_ne h9).trans (ho o h9)) (fun q hq1 hq2 m2 hm2 => (gz_up_oth (by omega)).trans (hT q hq1 hq2 m2 hm2)) (fun m2 hm2 => by
                by_cases e : m2 = mv
                · subst e; rw [show (i + 1 - 1) * 2 + m2 = i * 2 + m2 by omega, gz_up_self, ev_t_eq (show i + 1 = ((d0 + d1) * F) - ((d0 + d1) * F - (i + 1)) by omega)]
                · exact (gz_up_oth (by omega)).trans (hD m2 (by omega)))
        exact gz_lw [(0, .ref (ad 13)), (1, .int x1), (2, .int x2), (3, .int x3), (4, .int 0)] ⟨rfl, rfl, rfl, rfl, rfl, trivial⟩ (lp2 2 0 J 0 (by omega) rfl ho hT (fun m2 hm2 => absurd hm2 (Nat.not_lt_zero m2)))
  refine gz_lw [(0, .ref (ad 13)), (1, .int x1), (2, .int x2), (3, .int (nI ((d0 + d1) * F) - 1))] ⟨rfl, rfl, rfl, rfl, trivial⟩ ?_
  exact lp ((d0 + d1) * F) (Nat.le_refl _) G _ (fun e => by omega) (fun i hi => by rw [hi]; exact nI_pred i) (fun _ _ => rfl) (fun q hq1 hq2 => by omega)
  -- places not laid: [11, 14, 15, 17, 19, 20, 23, 24, 27, 28, 29, 30, 32, 33, 34, 35, 36, 37, 39, 42, 45, 48, 51, 54, 57, 58, 59, 60, 61, 62, 65]
set_option maxHeartbeats 4000000 in
set_option maxRecDepth 100000 in
theorem ct_X3_play (hJ : gz_inj ad lx_lay) (I : Nat → Nat → Int32) (G : Nat → Nat → UInt64) (d0 d1 F : Nat) (w : Bool) (hO : cf_ok d0 d1 F) (hX : xi_tab d0 d1 F w I) (pa pb : Nat) (x2 x3 : Int32) (hx2 : x2 = nI pa) (hx3 : x3 = nI pb) (hp : pa < 4) (hq : pb < 4) (hw : wt_ok (I 12)) : gz_Ct l D ad cy lx_lay yX3_play cX3_play 12 (some .double) 5 [.ref (ad 13), .ref (ad 11), .int x2, .int x3] (I, G) (fun v M1 => ∃ G1, v = some (.double (wo_all (I 12) d0 d1 F w pa pb)) ∧ M1 = (I, G1) ∧ ∀ o, o ≠ 15 → o ≠ 17 → o ≠ 18 → G1 o = G o) := by
  obtain ⟨T1, T2, T3, T4, T5, T6, T7, T8, T9⟩ := tb_facts hO.1
  obtain ⟨U1, U2, U3, U4, U5, U6, U7, U8, U9⟩ := tb_facts hO.2.1
  have Bd := cf_bids hO
  refine gz_met (by decide +kernel) hJ (Nat.le_of_ble_eq_true rfl) ?_
  intro p e s m args below meth c hC
  refine gz_aload_n hC dX3_play_0 rfl ?_
  refine gz_getR (j := 0) hC dX3_play_1 cf_X3 fl_X3_25 rfl rfl (by decide) ?_
  refine gz_iconst hC (0) dX3_play_4 (by decide) ?_
  refine gz_callV1 hC dX3_play_5 ml_X3_29 rfl rfl (by decide) (by decide) (Nat.le_of_ble_eq_true rfl) (ct_X6_cup hJ _ _ _ 3 (Or.inl ⟨rfl, rfl⟩)) (fun v5 M5 hp5 => ?_)
  obtain ⟨rfl, rfl⟩ := hp5
  refine gz_astore hC dX3_play_8 (by decide) ?_
  refine gz_aload_n hC dX3_play_10 rfl ?_
  refine gz_getR (j := 0) hC dX3_play_11 cf_X3 fl_X3_25 rfl rfl (by decide) ?_
  refine gz_iconst hC (1) dX3_play_14 (by decide) ?_
  refine gz_callV1 hC dX3_play_15 ml_X3_29 rfl rfl (by decide) (by decide) (Nat.le_of_ble_eq_true rfl) (ct_X6_cup hJ _ _ _ 7 (Or.inr ⟨by decide, rfl⟩)) (fun v15 M15 hp15 => ?_)
  obtain ⟨rfl, rfl⟩ := hp15
  refine gz_astore hC dX3_play_18 (by decide) ?_
  refine gz_aload_n hC dX3_play_20 rfl ?_
  refine gz_getR (j := 1) hC dX3_play_21 cf_X3 fl_X3_12 rfl rfl (by decide) ?_
  refine gz_aload_n hC dX3_play_24 rfl ?_
  refine gz_iload_n hC dX3_play_25 rfl ?_
  refine gz_aload hC dX3_play_26 rfl ?_
  refine gz_aload_n hC dX3_play_28 rfl ?_
  refine gz_getR (j := 0) hC dX3_play_29 cf_X3 fl_X3_25 rfl rfl (by decide) ?_
  refine gz_getIN (j := 4) hC dX3_play_32 cf_X6 fl_X3_35 rfl rfl (by decide) ?_
  refine gz_callV4 hC dX3_play_35 ml_X3_39 rfl rfl (by decide) (by decide) (Nat.le_of_ble_eq_true rfl) (ct_X5_take hJ _ _ 14 lx_sh14 3 lx_cup3 d0 F ((d0 + d1) * F) pa hO.1 hX.2.2.2.1 _ _ hx2 hX.2.1 hp hw Bd.2 Bd.1) (fun v35 M35 hp35 => ?_)
  obtain ⟨J1, rfl, rfl, k1, k2⟩ := hp35
  refine gz_aload_n hC dX3_play_38 rfl ?_
  refine gz_getR (j := 2) hC dX3_play_39 cf_X3 fl_X3_18 rfl rfl (by decide) ?_
  refine gz_aload_n hC dX3_play_42 rfl ?_
  refine gz_iload_n hC dX3_play_43 rfl ?_
  refine gz_aload hC dX3_play_44 rfl ?_
  refine gz_aload_n hC dX3_play_46 rfl ?_
  refine gz_getR (j := 0) hC dX3_play_47 cf_X3 fl_X3_25 rfl rfl (by decide) ?_
  refine gz_getIN (j := 4) hC dX3_play_50 cf_X6 fl_X3_35 rfl rfl (by decide) ?_
  refine gz_callV4 hC dX3_play_53 ml_X3_39 rfl rfl (by decide) (by decide) (Nat.le_of_ble_eq_true rfl) (ct_X5_take hJ _ _ 16 lx_sh16 7 lx_cup7 d1 F ((d0 + d1) * F) pb hO.2.1 hX.2.2.2.2.1 _ _ hx3 hX.2.1 hq hw Bd.2 Bd.1) (fun v53 M53 hp53 => ?_)
  obtain ⟨J2, rfl, rfl, k3, k4⟩ := hp53
  refine gz_dconst0 hC dX3_play_56 ?_
  refine gz_dstore hC dX3_play_57 (by decide) ?_
  refine gz_iconst hC (0) dX3_play_59 (by decide) ?_
  refine gz_istore hC dX3_play_60 (by decide) ?_
  have lp1 : ∀ (n1 g : Nat) (J : Nat → Nat → UInt64) (y : UInt64) (x8 : Int32) (hi1 : g + n1 = tb_n d0 F) (hx8 : x8 = nI g) (hy : y = wo_g (I 12) d0 d1 F w pa pb g) (hA : ∀ g, g < tb_n d0 F → ∀ la, la ≤ (d0 + d1) * F → ∀ r, r ≤ (d0 + d1) * F → J 15 ((g * 9 + la) * 9 + r) = sh_v (I 12) (tb_ix pa d0 g la 0) la ((d0 + d1) * F) r) (hB : ∀ h, h < tb_n d1 F → ∀ la, la ≤ (d0 + d1) * F → ∀ r, r ≤ (d0 + d1) * F → J 17 ((h * 9 + la) * 9 + r) = sh_v (I 12) (tb_ix pb d1 h la 0) la ((d0 + d1) * F) r) (ho : ∀ o, o ≠ 15 → o ≠ 17 → o ≠ 18 → J o = G o), gz_W p l e (gz_rm 5) s m args below meth c D ad cy lx_lay 12 (MQ below (gz_Q D ad cy lx_lay (fun v M1 => ∃ G1, v = some (.double (wo_all (I 12) d0 d1 F w pa pb)) ∧ M1 = (I, G1) ∧ ∀ o, o ≠ 15 → o ≠ 17 → o ≠ 18 → G1 o = G o)) args s 0 0 (gz_A ad lx_lay)) (I, J) 62 [(0, .ref (ad 13)), (1, .ref (ad 11)), (2, .int x2), (3, .int x3), (4, .ref (ad 3)), (5, .ref (ad 7)), (6, .double y), (8, .int x8)] [] := by
    intro n1
    induction n1 with
    | zero =>
      intro g J y x8 hi1 hx8 hy hA hB ho
      refine gz_iload hC dX3_play_62 rfl ?_
      refine gz_aload hC dX3_play_64 rfl ?_
      refine gz_getIN (j := 5) hC dX3_play_66 cf_X1 fl_X3_43 lx_cup3.1 rfl (by decide) ?_
      refine gz_icmp_ge hC 131 dX3_play_69 (by decide) (fun c69 => ?_) (fun c69 => ?_)
      · refine gz_aload_n hC dX3_play_131 rfl ?_
        refine gz_getR (j := 0) hC dX3_play_132 cf_X3 fl_X3_25 rfl rfl (by decide) ?_
        refine gz_dload hC dX3_play_135 rfl ?_
        refine gz_callV1 hC dX3_play_137 ml_X3_56 rfl rfl (by decide) (by decide) (Nat.le_of_ble_eq_true rfl) (ct_X6_meanOf hJ _ _ d0 d1 F w hO hX _ (by rw [hy, show g = tb_n d0 F by omega]; exact fp_b_n64 (wo_all_b w hw hO hp hq) (by decide))) (fun v137 M137 hp137 => ?_)
        obtain ⟨rfl, rfl⟩ := hp137
        exact gz_dret hC dX3_play_140 ⟨J, by rw [hy, show g = tb_n d0 F by omega]; rfl, rfl, ho⟩
      · exact absurd (gz_ile hX.2.2.2.1.2.2.1 hx8 (by omega) (by omega)) c69
    | succ n1 ih1 =>
      intro g J y x8 hi1 hx8 hy hA hB ho
      refine gz_iload hC dX3_play_62 rfl ?_
      refine gz_aload hC dX3_play_64 rfl ?_
      refine gz_getIN (j := 5) hC dX3_play_66 cf_X1 fl_X3_43 lx_cup3.1 rfl (by decide) ?_
      refine gz_icmp_ge hC 131 dX3_play_69 (by decide) (fun c69 => ?_) (fun c69 => ?_)
      · exact absurd c69 (gz_inle hX.2.2.2.1.2.2.1 hx8 (by omega) (by omega))
      · refine gz_iconst hC (0) dX3_play_72 (by decide) ?_
        refine gz_istore hC dX3_play_73 (by decide) ?_
        have lp2 : ∀ (n2 h : Nat) (J : Nat → Nat → UInt64) (y : UInt64) (x9 : Int32) (hi2 : h + n2 = tb_n d1 F) (hx9 : x9 = nI h) (hy : y = wo_h (I 12) d0 d1 F w pa pb g h (wo_g (I 12) d0 d1 F w pa pb g)) (hA : ∀ g, g < tb_n d0 F → ∀ la, la ≤ (d0 + d1) * F → ∀ r, r ≤ (d0 + d1) * F → J 15 ((g * 9 + la) * 9 + r) = sh_v (I 12) (tb_ix pa d0 g la 0) la ((d0 + d1) * F) r) (hB : ∀ h, h < tb_n d1 F → ∀ la, la ≤ (d0 + d1) * F → ∀ r, r ≤ (d0 + d1) * F → J 17 ((h * 9 + la) * 9 + r) = sh_v (I 12) (tb_ix pb d1 h la 0) la ((d0 + d1) * F) r) (ho : ∀ o, o ≠ 15 → o ≠ 17 → o ≠ 18 → J o = G o), gz_W p l e (gz_rm 5) s m args below meth c D ad cy lx_lay 12 (MQ below (gz_Q D ad cy lx_lay (fun v M1 => ∃ G1, v = some (.double (wo_all (I 12) d0 d1 F w pa pb)) ∧ M1 = (I, G1) ∧ ∀ o, o ≠ 15 → o ≠ 17 → o ≠ 18 → G1 o = G o)) args s 0 0 (gz_A ad lx_lay)) (I, J) 75 [(0, .ref (ad 13)), (1, .ref (ad 11)), (2, .int x2), (3, .int x3), (4, .ref (ad 3)), (5, .ref (ad 7)), (6, .double y), (8, .int x8), (9, .int x9)] [] := by
          intro n2
          induction n2 with
          | zero =>
            intro h J y x9 hi2 hx9 hy hA hB ho
            refine gz_iload hC dX3_play_75 rfl ?_
            refine gz_aload hC dX3_play_77 rfl ?_
            refine gz_getIN (j := 5) hC dX3_play_79 cf_X1 fl_X3_43 lx_cup7.1 rfl (by decide) ?_
            refine gz_icmp_ge hC 125 dX3_play_82 (by decide) (fun c82 => ?_) (fun c82 => ?_)
            · refine gz_iinc hC (1) dX3_play_125 rfl (by decide) (by decide) ?_
              refine gz_goto hC 62 dX3_play_128 (by decide) ?_
              refine gz_lw [(0, .ref (ad 13)), (1, .ref (ad 11)), (2, .int x2), (3, .int x3), (4, .ref (ad 3)), (5, .ref (ad 7)), (6, .double y), (8, .int (x8 + 1))] ⟨rfl, rfl, rfl, rfl, rfl, rfl, rfl, rfl, trivial⟩ ?_
              exact ih1 (g + 1) J _ _ (by omega) (gz_i1 hx8) (by rw [hy, show h = tb_n d1 F by omega]; rfl) hA hB ho
            · exact absurd (gz_ile hX.2.2.2.2.1.2.2.1 hx9 (by omega) (by omega)) c82
          | succ n2 ih2 =>
            intro h J y x9 hi2 hx9 hy hA hB ho
            refine gz_iload hC dX3_play_75 rfl ?_
            refine gz_aload hC dX3_play_77 rfl ?_
            refine gz_getIN (j := 5) hC dX3_play_79 cf_X1 fl_X3_43 lx_cup7.1 rfl (by decide) ?_
            refine gz_icmp_ge hC 125 dX3_play_82 (by decide) (fun c82 => ?_) (fun c82 => ?_)
            · exact absurd c82 (gz_inle hX.2.2.2.2.1.2.2.1 hx9 (by omega) (by omega))
            · refine gz_aload hC dX3_play_85 rfl ?_
              refine gz_iload hC dX3_play_87 rfl ?_
              refine gz_callV1 hC dX3_play_89 ml_X3_48 lx_cup3.1 rfl (by decide) (by decide) (Nat.le_of_ble_eq_true rfl) (ct_X1_waysOf hJ _ _ 3 lx_cup3 g _ hx8 (by omega)) (fun v89 M89 hp89 => ?_)
              obtain ⟨rfl, rfl⟩ := hp89
              rw [hX.2.2.2.1.2.2.2.2 g (by omega)]
              refine gz_aload hC dX3_play_92 rfl ?_
              refine gz_iload hC dX3_play_94 rfl ?_
              refine gz_callV1 hC dX3_play_96 ml_X3_48 lx_cup7.1 rfl (by decide) (by decide) (Nat.le_of_ble_eq_true rfl) (ct_X1_waysOf hJ _ _ 7 lx_cup7 h _ hx9 (by omega)) (fun v96 M96 hp96 => ?_)
              obtain ⟨rfl, rfl⟩ := hp96
              rw [hX.2.2.2.2.1.2.2.2.2 h (by omega)]
              refine gz_imul hC dX3_play_99 ?_
              rw [pk_mul]
              refine gz_i2d hC dX3_play_100 ?_
              refine gz_dstore hC dX3_play_101 (by decide) ?_
              refine gz_dload hC dX3_play_103 rfl ?_
              refine gz_dload hC dX3_play_105 rfl ?_
              refine gz_aload_n hC dX3_play_107 rfl ?_
              refine gz_iload hC dX3_play_108 rfl ?_
              refine gz_iload hC dX3_play_110 rfl ?_
              refine gz_callV2 hC dX3_play_112 ml_X3_52 rfl rfl (by decide) (by decide) (Nat.le_of_ble_eq_true rfl) (ct_X3_expected hJ _ _ d0 d1 F w hO hX g h _ _ hx8 hx9 (by omega) (by omega) (wo_S (I 12) d0 d1 F pa pb g h) (fun la hla r hr => hA g (by omega) la hla r hr) (fun la hla r hr => hB h (by omega) la hla r hr) (wo_S_b hw hO hp hq (by omega) (by omega)) wo_S0) (fun v112 M112 hp112 => ?_)
              obtain ⟨J2, rfl, rfl, ho2⟩ := hp112
              have ht := wo_term_b w hw hO hp hq (show g < 4 by omega) (show h < 4 by omega)
              have ha := wo_h_b w hw hO hp hq (show g < 4 by omega) (by omega) (wo_g_b w hw hO hp hq g (by omega)) h (by omega) (by omega)
              rw [← hy] at ha
              refine gz_dmul hC dX3_play_115 (fp_b_n64 ht (by decide)) ?_
              refine gz_dadd hC dX3_play_116 (fp_b_n64 (fp_b_add ha (fp_b_mono ht (by omega)) (by omega)) (by omega)) ?_
              refine gz_dstore hC dX3_play_117 (by decide) ?_
              refine gz_iinc hC (1) dX3_play_119 rfl (by decide) (by decide) ?_
              refine gz_goto hC 75 dX3_play_122 (by decide) ?_
              refine gz_lw [(0, .ref (ad 13)), (1, .ref (ad 11)), (2, .int x2), (3, .int x3), (4, .ref (ad 3)), (5, .ref (ad 7)), (6, .double (FP.dadd y (FP.dmul (FP.i2d (nI (tb_w d0 F g * tb_w d1 F h))) (wo_e (I 12) d0 d1 F w pa pb g h)))), (8, .int x8), (9, .int (x9 + 1))] ⟨rfl, rfl, rfl, rfl, rfl, rfl, rfl, rfl, rfl, trivial⟩ ?_
              exact ih2 (h + 1) J2 _ _ (by omega) (gz_i1 hx9) (by rw [hy]; rfl) (fun g2 hg2 la hla r hr => by rw [ho2 15 (by decide)]; exact hA g2 hg2 la hla r hr) (fun h2 hh2 la hla r hr => by rw [ho2 17 (by decide)]; exact hB h2 hh2 la hla r hr) (fun o a b c => (ho2 o c).trans (ho o a b c))
        exact gz_lw [(0, .ref (ad 13)), (1, .ref (ad 11)), (2, .int x2), (3, .int x3), (4, .ref (ad 3)), (5, .ref (ad 7)), (6, .double y), (8, .int x8), (9, .int 0)] ⟨rfl, rfl, rfl, rfl, rfl, rfl, rfl, rfl, rfl, trivial⟩ (lp2 (tb_n d1 F) 0 J y 0 (by omega) rfl hy hA hB ho)
  exact gz_lw [(0, .ref (ad 13)), (1, .ref (ad 11)), (2, .int x2), (3, .int x3), (4, .ref (ad 3)), (5, .ref (ad 7)), (6, .double 0), (8, .int 0)] ⟨rfl, rfl, rfl, rfl, rfl, rfl, rfl, rfl, trivial⟩ (lp1 (tb_n d0 F) 0 J2 0 0 (by omega) rfl rfl (fun g hg la hla r hr => by rw [k4 15 (by decide)]; exact k1 g hg la hla r hr) k3 (fun o a b c => (k4 o b).trans (k2 o a)))
  -- places not laid: [64, 66, 69, 72, 73, 75, 77, 79, 82, 85, 87, 89, 92, 94, 96, 99, 100, 101, 103, 105, 107, 108, 110, 112, 115, 116, 117, 119, 122, 125, 128, 131, 132, 135, 137, 140]
end CT
