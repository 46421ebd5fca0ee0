/-! the model: answer, opening, reply -/
theorem fp_mul0 {L : Nat} {y : UInt64} (hy : fp_b L y) (h1 : 1 ≤ L) (hL : L ≤ 2045) : FP.dmul 0 y = 0 := by
  apply UInt64.toNat_inj.mp
  refine (fp_mul_ex (n := 0) (fp_b_mono fp_b_0 (show 1 ≤ 1024 by decide)) hy (by decide) (by omega) (by omega) (by omega) (by decide) ?_).trans rfl
  have h0 : FP.Core.unitsOf FP.Core.b64 0 = 0 := by rw [fp_u_def, if_pos (by decide)]
  have h2 : fp_u 0 = 0 := h0
  rw [h0, h2, Nat.zero_mul, Nat.zero_mul]
theorem an_cs_z {t : Nat → Bool} {R : Nat → UInt64} : ∀ n, (∀ k, k < n → R k = 0) → an_cs t R 0 n = 0
  | 0, _ => rfl
  | n + 1, h => by
    have h1 := an_cs_z (t := t) n (fun k hk => h k (by omega))
    unfold an_cs
    rw [h1, h n (by omega)]
    cases t n <;> decide +kernel
theorem an_any_z {R : Nat → UInt64} : ∀ n, (∀ k, k < n → R k = 0) → an_any R n = false
  | 0, _ => rfl
  | n + 1, h => by
    unfold an_any
    rw [an_any_z n (fun k hk => h k (by omega)), h n (by omega)]
    decide +kernel
theorem an_o_z {W : Nat → UInt64} {la : Nat} : ∀ n, (∀ q, q < n → tb_mf la q = true → W q = 0) → (an_o W la n).2.1 = 0
  | 0, _ => rfl
  | n + 1, h => by
    have h1 := an_o_z (la := la) n (fun q hq => h q (by omega))
    unfold an_o
    cases e : tb_mf la n with
    | false => exact h1
    | true => cases e2 : (!(an_o W la n).1 || fp_gt (W n) (an_o W la n).2.1) with
      | false => exact h1
      | true => exact h n (by omega) e
theorem an_h_z {A : Nat → Bool} {C : UInt64 → UInt64} {W : Nat → UInt64} {la : Nat} : ∀ n, (∀ q, q < n → tb_mf la q = true → A q = false) → an_h A C W la n = 0
  | 0, _ => rfl
  | n + 1, h => by
    have h1 := an_h_z (A := A) (C := C) (W := W) (la := la) n (fun q hq => h q (by omega))
    unfold an_h
    cases e : tb_mf la n with
    | false => exact h1
    | true => rw [h n (by omega) e]; exact h1
theorem an_V_z {nO bids : Nat} {t : Nat → Nat → Bool} {S : Nat → Nat → Nat → UInt64} (hA : an_ok nO bids S) : ∀ n own la (R : Nat → UInt64), la ≤ bids → (∀ k, k < nO → R k = 0) → an_V nO bids t S n own la R = 0
  | 0, _, _, _, _, _ => rfl
  | n + 1, true, la, R, hla, hR => by
    show (an_o _ _ _).2.1 = 0
    refine an_o_z (bids + 1) (fun q hq hm => ?_)
    show (if _ then _ else _) = (0 : UInt64)
    split
    · exact an_cs_z nO hR
    · exact an_V_z hA n false q R (by omega) hR
  | n + 1, false, la, R, hla, hR => by
    show an_h _ _ _ _ _ = 0
    refine an_h_z (bids + 1) (fun q hq hm => an_any_z nO (fun k hk => ?_))
    show FP.dmul (R k) (S k la q) = 0
    rw [hR k hk]
    exact fp_mul0 (hA.2.2.2 k hk la hla q (by omega)) (by decide) (by decide)
theorem an_o_zb {W : Nat → UInt64} {la : Nat} (hl : ¬ la = 0) : ∀ n, (∀ q, q ≤ n → tb_mf la q = true → W q = 0) → an_o W la (n + 1) = (true, 0, 0)
  | 0, h => by
    have hm : tb_mf la 0 = true := by unfold tb_mf; rw [decide_eq_true rfl, decide_eq_false hl]; rfl
    show cond (tb_mf la 0 && (!false || _)) (true, W 0, 0) _ = _
    rw [hm, h 0 (Nat.le_refl 0) hm]
    rfl
  | n + 1, h => by
    have h1 := an_o_zb hl n (fun q hq => h q (by omega))
    show cond (tb_mf la (n + 1) && (!(an_o W la (n + 1)).1 || fp_gt (W (n + 1)) (an_o W la (n + 1)).2.1)) _ (an_o W la (n + 1)) = _
    rw [h1]
    cases e : tb_mf la (n + 1) with
    | false => rfl
    | true =>
      rw [h (n + 1) (Nat.le_refl _) e]
      have z : fp_gt (0 : UInt64) 0 = false := by decide +kernel
      show cond (true && (!true || fp_gt 0 0)) _ _ = _
      rw [z]
      rfl
theorem an_best_z {nO bids : Nat} {t : Nat → Nat → Bool} {S : Nat → Nat → Nat → UInt64} (hA : an_ok nO bids S) {n la : Nat} {R : Nat → UInt64} (hl : ¬ la = 0) (hR : ∀ k, k < nO → R k = 0) : an_best nO bids t S n la R = 0 := by
  unfold an_best
  rw [an_o_zb hl bids (fun q hq hm => ?_)]
  show (if _ then _ else _) = (0 : UInt64)
  split
  · exact an_cs_z nO hR
  · exact an_V_z hA n false q R hq hR
theorem an_any_0 {R : Nat → UInt64} {K : Nat} (hK : K ≤ 2047) : ∀ n, (∀ k, k < n → fp_b K (R k)) → an_any R n = false → ∀ k, k < n → R k = 0
  | 0, _, _, k, hk => absurd hk (Nat.not_lt_zero k)
  | n + 1, hb, h, k, hk => by
    unfold an_any at h
    rw [Bool.or_eq_false_iff] at h
    by_cases e : k = n
    · subst e
      have h2 := h.2
      rw [fp_pos_iff (hb k hk) hK] at h2
      exact Decidable.byContradiction (fun z => by rw [decide_eq_true z] at h2; cases h2)
    · exact an_any_0 hK n (fun k hk => hb k (by omega)) h.1 k (by omega)
theorem an_rb_eq {wt : Nat → Int32} {d0 d1 F plan q : Nat} (w : Bool) (own : Nat) (hw : wt_ok wt) (hO : cf_ok d0 d1 F) (hpl : plan < 4) (hq : ¬ q = 0) (hq2 : q ≤ (d0 + d1) * F) : an_rb wt d0 d1 F w plan own q = nI (an_fb wt d0 d1 F w plan 1 own q (an_R1 wt d0 d1 F plan q)) - 1 := by
  unfold an_rb
  cases e : an_any (an_R1 wt d0 d1 F plan q) (an_nO d0 d1 F 1) with
  | true => rfl
  | false =>
    have hA := an_S_ok (plan := plan) hw hO hpl (show 1 < 2 by decide)
    have hz : ∀ k, k < an_nO d0 d1 F 1 → an_R1 wt d0 d1 F plan q k = 0 := an_any_0 (K := 1091) (by decide) _ (an_R_b hA (K := 1056) (by decide) (by decide) (fun k _ => an_R0_b hO (by decide) k) (Nat.zero_le _) hq2) e
    unfold an_fb
    rw [an_best_z hA hq hz]
    rfl
section CT
variable {l : Launch} {D : va_G} {ad : Nat → Nat} {cy : Nat → ClassId}
set_option maxHeartbeats 4000000 in
set_option maxRecDepth 100000 in
theorem ct_X8_answer (hJ : gz_inj ad lm_lay) (I : Nat → Nat → Int32) (G : Nat → Nat → UInt64) (d0 d1 F : Nat) (w : Bool) (hO : cf_ok d0 d1 F) (hX : xm_tab d0 d1 F w I) (hw : wt_ok (I 4)) (a b : Int32) : gz_Ct l D ad cy lm_lay yX8_answer cX8_answer 6 (some .long) 8 [.ref (ad 0), .int a, .int b] (I, G) (fun v M1 => ∃ I1 G1, v = some (.long (sp_ans (I 4) d0 d1 F w a b)) ∧ M1 = (I1, G1) ∧ mr_J 0 I I1) := by
  have T0 := tb_facts hO.1
  have U0 := tb_facts hO.2.1
  have Bd := cf_bids hO
  refine gz_met (by decide +kernel) hJ (Nat.le_of_ble_eq_true rfl) ?_
  intro p e s m args below meth c hC
  refine gz_iload_n hC dX8_answer_0 rfl ?_
  refine gz_callS1 hC dX8_answer_1 ml_X8_93 (by decide) (by decide) (Nat.le_of_ble_eq_true rfl) (ct_X8_isPlayer hJ _ _ _) (fun v1 M1 hp1 => ?_)
  obtain ⟨rfl, rfl⟩ := hp1
  refine gz_if_eq hC 14 dX8_answer_4 (by decide) (fun c4 => ?_) (fun c4 => ?_)
  · have q1 := gz_b0 c4
    refine gz_ldc2l hC dX8_answer_14 kc_X8_139 ?_
    exact gz_lret hC dX8_answer_17 ⟨I, G, by unfold sp_ans; first | (rw [q1, q2]; rfl) | (rw [q1]; rfl), rfl, mr_J_0⟩
  · have q1 := gz_b1 c4
    obtain ⟨pl, hp, ha⟩ := gz_in_2 q1
    have T := tb_facts (cf_okP hO hp)
    refine gz_iload_n hC dX8_answer_7 rfl ?_
    refine gz_callS1 hC dX8_answer_8 ml_X8_117 (by decide) (by decide) (Nat.le_of_ble_eq_true rfl) (ct_X8_isPlan hJ _ _ _) (fun v8 M8 hp8 => ?_)
    obtain ⟨rfl, rfl⟩ := hp8
    refine gz_if_ne hC 18 dX8_answer_11 (by decide) (fun c11 => ?_) (fun c11 => ?_)
    · have q2 := gz_b1 c11
      obtain ⟨plan, hpl, hb⟩ := gz_in_t (n := 4) (by decide) (by decide) q2
      refine gz_dconst0 hC dX8_answer_18 ?_
      refine gz_dstore_n hC dX8_answer_19 (by decide) ?_
      refine gz_iconst hC (0) dX8_answer_20 (by decide) ?_
      refine gz_istore hC dX8_answer_21 (by decide) ?_
      have lp : ∀ (n g : Nat) (J1 : Nat → Nat → Int32) (J2 : Nat → Nat → UInt64) (y : UInt64) (x5 : Int32) (hi : g + n = tb_n (tb_d d0 d1 pl) F) (hx5 : x5 = nI g) (hy : y = an_s (I 4) d0 d1 F w plan pl g) (hf : mr_J 0 I J1), gz_W p l e (gz_rm 8) s m args below meth c D ad cy lm_lay 6 (MQ below (gz_Q D ad cy lm_lay (fun v M1 => ∃ I1 G1, v = some (.long (sp_ans (I 4) d0 d1 F w a b)) ∧ M1 = (I1, G1) ∧ mr_J 0 I I1)) args s 0 0 (gz_A ad lm_lay)) (J1, J2) 23 [(0, .ref (ad 0)), (1, .int a), (2, .int b), (3, .double y), (5, .int x5)] [] := by
        intro n
        induction n with
        | zero =>
          intro g J1 J2 y x5 hi hx5 hy hf
          refine gz_iload hC dX8_answer_23 rfl ?_
          refine gz_aload_n hC dX8_answer_25 rfl ?_
          refine gz_getR (j := 5) hC dX8_answer_26 cf_X8 fl_X8_23 rfl rfl (by decide) ?_
          refine gz_iload_n hC dX8_answer_29 rfl ?_
          refine gz_iald hC dX8_answer_30 rfl (by rw [ha]; exact vp_in_nI (by omega) (by decide)) ?_
          have hXj := xm_mr hX hf
          rw [show a.toNatClampNeg = pl by rw [ha, nI_clamp (by omega)], (xm_hP hXj hp).1]
          refine gz_icmp_ge hC 70 dX8_answer_31 (by decide) (fun c31 => ?_) (fun c31 => ?_)
          · refine gz_dload_n hC dX8_answer_70 rfl ?_
            refine gz_aload_n hC dX8_answer_71 rfl ?_
            refine gz_aload_n hC dX8_answer_72 rfl ?_
            refine gz_getI (j := 0) hC dX8_answer_73 cf_X8 fl_X8_7 rfl rfl (by decide) ?_
            refine gz_aload_n hC dX8_answer_76 rfl ?_
            refine gz_getI (j := 1) hC dX8_answer_77 cf_X8 fl_X8_13 rfl rfl (by decide) ?_
            refine gz_iadd hC dX8_answer_80 ?_
            refine gz_callV1 hC dX8_answer_81 ml_X8_114 rfl rfl (by decide) (by decide) (Nat.le_of_ble_eq_true rfl) (ct_X8_power hJ _ _ d0 d1 F w hXj.1 (d0 + d1) (by omega) _ (by rw [hXj.1.1, hXj.1.2.1, nI_add])) (fun v81 M81 hp81 => ?_)
            obtain ⟨rfl, rfl⟩ := hp81
            have hall := an_all_b w hw hO hpl hp
            have hyy : FP.ddiv y (FP.i2d (nI (F ^ (d0 + d1)))) = an_all (I 4) d0 d1 F w plan pl := by rw [hy, show g = tb_n (tb_d d0 d1 pl) F by omega, Nat.pow_add]; rfl
            refine gz_i2d hC dX8_answer_84 ?_
            refine gz_ddiv hC dX8_answer_85 (by rw [hyy]; exact fp_b_n64 hall (by decide)) ?_
            rw [hyy]
            refine gz_callS1 hC dX8_answer_86 ml_X8_145 (by decide) (by decide) (Nat.le_of_ble_eq_true rfl) (ct_dbits hJ _ _ _ (fp_b_mono hall (by decide))) (fun v86 M86 hp86 => ?_)
            obtain ⟨rfl, rfl⟩ := hp86
            exact gz_lret hC dX8_answer_89 ⟨J1, J2, by unfold sp_ans; rw [q1, q2, ha, hb, nI_clamp (by omega), nI_clamp (by omega)]; rfl, rfl, hf⟩
          · exact absurd (gz_ile rfl hx5 (by omega) (by omega)) c31
        | succ n ih =>
          intro g J1 J2 y x5 hi hx5 hy hf
          refine gz_iload hC dX8_answer_23 rfl ?_
          refine gz_aload_n hC dX8_answer_25 rfl ?_
          refine gz_getR (j := 5) hC dX8_answer_26 cf_X8 fl_X8_23 rfl rfl (by decide) ?_
          refine gz_iload_n hC dX8_answer_29 rfl ?_
          refine gz_iald hC dX8_answer_30 rfl (by rw [ha]; exact vp_in_nI (by omega) (by decide)) ?_
          have hXj := xm_mr hX hf
          rw [show a.toNatClampNeg = pl by rw [ha, nI_clamp (by omega)], (xm_hP hXj hp).1]
          refine gz_icmp_ge hC 70 dX8_answer_31 (by decide) (fun c31 => ?_) (fun c31 => ?_)
          · exact absurd c31 (gz_inle rfl hx5 (by omega) (by omega))
          · refine gz_aload_n hC dX8_answer_34 rfl ?_
            refine gz_iload_n hC dX8_answer_35 rfl ?_
            refine gz_callV1 hC dX8_answer_36 ml_X8_170 rfl rfl (by decide) (by decide) (Nat.le_of_ble_eq_true rfl) (ct_X8_begin hJ _ _ d0 d1 F w hO hXj pl hp _ ha) (fun v36 M36 hp36 => ?_)
            obtain ⟨J3, rfl, rfl, k11, kR⟩ := hp36
            obtain ⟨Jb, hJb⟩ : ∃ z, z = (gz_up (gz_up (gz_up (gz_up J1 9 0 (-1)) 10 0 (-1)) 12 0 (-1)) 13 0 0) := ⟨_, rfl⟩
            rw [← hJb]
            have fJb : mr_J 0 J1 Jb := by rw [hJb]; exact mr_J_up (mr_J_up (mr_J_up (mr_J_up mr_J_0 (by decide) (Nat.le_refl _)) (by decide) (Nat.le_refl _)) (by decide) (Nat.le_refl _)) (by decide) (Nat.le_refl _)
            have hXb := xm_mr hXj fJb
            have h4 : Jb 4 = I 4 := (mr_J_o fJb 4 (by decide) (by decide) (by decide) (by decide)).trans (mr_J_o hf 4 (by decide) (by decide) (by decide) (by decide))
            refine gz_dload_n hC dX8_answer_39 rfl ?_
            refine gz_aload_n hC dX8_answer_40 rfl ?_
            refine gz_getR (j := 6) hC dX8_answer_41 cf_X8 fl_X8_26 rfl rfl (by decide) ?_
            refine gz_iconst hC (4) dX8_answer_44 (by decide) ?_
            refine gz_iload_n hC dX8_answer_45 rfl ?_
            refine gz_imul hC dX8_answer_46 ?_
            refine gz_iload hC dX8_answer_47 rfl ?_
            refine gz_iadd hC dX8_answer_49 ?_
            refine gz_iald hC dX8_answer_50 rfl (by rw [ha, hx5, gz_n4, pk_mul, nI_add]; exact vp_in_nI (by omega) (by decide)) ?_
            rw [show (4 * a + x5).toNatClampNeg = 4 * pl + g by rw [ha, hx5, gz_n4, pk_mul, nI_add, nI_clamp (by omega)], (xm_hP hXb hp).2.2 g (by omega)]
            refine gz_i2d hC dX8_answer_51 ?_
            refine gz_aload_n hC dX8_answer_52 rfl ?_
            refine gz_iload_n hC dX8_answer_53 rfl ?_
            refine gz_iload_n hC dX8_answer_54 rfl ?_
            refine gz_iload hC dX8_answer_55 rfl ?_
            refine gz_iconst hC (0) dX8_answer_57 (by decide) ?_
            refine gz_callV4 hC dX8_answer_58 ml_X8_173 rfl rfl (by decide) (by decide) (Nat.le_of_ble_eq_true rfl) (ct_X8_answerOf hJ _ _ d0 d1 F w hO hXb pl plan g 0 0 (an_R0 d0 d1 F pl) 1056 hp hpl (by rw [h4]; exact hw) (by omega) (Nat.le_refl _) (Nat.zero_le _) (by decide) (by decide) (fun k _ => an_R0_b hO hp k) (by rw [hJb, gz_up_at (by decide), gz_up_at (by decide), gz_up_at (by decide), gz_up_self]; exact nM_0) (by rw [hJb, gz_up_at (by decide), gz_up_at (by decide), gz_up_self]) (by rw [hJb, gz_up_at (by decide), gz_up_self]) (by rw [hJb, gz_up_self]) k11 kR _ _ _ _ ha hb hx5 rfl) (fun v58 M58 hp58 => ?_)
            rw [h4] at hp58
            obtain ⟨J4, J5, rfl, rfl, hf2, _⟩ := hp58
            have ht := an_term_b w g hw hO hpl hp
            have hac := an_s_b w hw hO hpl hp g (by omega)
            rw [← hy] at hac
            rw [show an_V (an_nO d0 d1 F pl) ((d0 + d1) * F) (an_t d0 d1 F w pl g) (an_S (I 4) d0 d1 F plan pl) 9 (decide (0 % 2 = pl)) 0 (an_R0 d0 d1 F pl) = an_v (I 4) d0 d1 F w plan pl g from rfl]
            refine gz_dmul hC dX8_answer_61 (fp_b_n64 ht (by decide)) ?_
            refine gz_dadd hC dX8_answer_62 (fp_b_n64 (fp_b_add hac (fp_b_mono ht (by omega)) (by omega)) (by omega)) ?_
            refine gz_dstore_n hC dX8_answer_63 (by decide) ?_
            refine gz_iinc hC (1) dX8_answer_64 rfl (by decide) (by decide) ?_
            refine gz_goto hC 23 dX8_answer_67 (by decide) ?_
            refine gz_lw [(0, .ref (ad 0)), (1, .int a), (2, .int b), (3, .double _), (5, .int (x5 + 1))] ⟨rfl, rfl, rfl, rfl, rfl, trivial⟩ ?_
            exact ih (g + 1) J4 J5 _ _ (by omega) (gz_i1 hx5) (by rw [hy]; rfl) (mr_J_t (mr_J_t hf fJb (Nat.le_refl _)) hf2 (Nat.le_refl _))
      exact gz_lw [(0, .ref (ad 0)), (1, .int a), (2, .int b), (3, .double 0), (5, .int 0)] ⟨rfl, rfl, rfl, rfl, rfl, trivial⟩ (lp (tb_n (tb_d d0 d1 pl) F) 0 I G 0 0 (by omega) rfl rfl mr_J_0)
    · have q2 := gz_b0 c11
      refine gz_ldc2l hC dX8_answer_14 kc_X8_139 ?_
      exact gz_lret hC dX8_answer_17 ⟨I, G, by unfold sp_ans; first | (rw [q1, q2]; rfl) | (rw [q1]; rfl), rfl, mr_J_0⟩
  -- places not laid: [25, 26, 29, 30, 31, 34, 35, 36, 39, 40, 41, 44, 45, 46, 47, 49, 50, 51, 52, 53, 54, 55, 57, 58, 61, 62, 63, 64, 67, 70, 71, 72, 73, 76, 77, 80, 81, 84, 85, 86, 89]
set_option maxHeartbeats 4000000 in
set_option maxRecDepth 100000 in
theorem ct_X8_opening (hJ : gz_inj ad lm_lay) (I : Nat → Nat → Int32) (G : Nat → Nat → UInt64) (d0 d1 F : Nat) (w : Bool) (hO : cf_ok d0 d1 F) (hX : xm_tab d0 d1 F w I) (hw : wt_ok (I 4)) (a b : Int32) : gz_Ct l D ad cy lm_lay yX8_opening cX8_opening 5 (some .int) 8 [.ref (ad 0), .int a, .int b] (I, G) (fun v M1 => ∃ I1 G1, v = some (.int (sp_open (I 4) d0 d1 F w a b)) ∧ M1 = (I1, G1) ∧ mr_J 0 I I1) := by
  refine gz_met (by decide +kernel) hJ (Nat.le_of_ble_eq_true rfl) ?_
  intro p e s m args below meth c hC
  refine gz_iload_n hC dX8_opening_0 rfl ?_
  refine gz_callS1 hC dX8_opening_1 ml_X8_117 (by decide) (by decide) (Nat.le_of_ble_eq_true rfl) (ct_X8_isPlan hJ _ _ _) (fun v1 M1 hp1 => ?_)
  obtain ⟨rfl, rfl⟩ := hp1
  refine gz_if_eq hC 16 dX8_opening_4 (by decide) (fun c4 => ?_) (fun c4 => ?_)
  · have q1 := gz_b0 c4
    refine gz_bipush hC (-100) dX8_opening_16 (by decide) ?_
    exact gz_iret hC dX8_opening_18 ⟨I, G, by unfold sp_open; first | (rw [q1, q2, q3]; rfl) | (rw [q1, q2]; rfl) | (rw [q1]; rfl), rfl, mr_J_0⟩
  · have q1 := gz_b1 c4
    obtain ⟨plan, hpl, ha⟩ := gz_in_t (n := 4) (by decide) (by decide) q1
    refine gz_aload_n hC dX8_opening_7 rfl ?_
    refine gz_iconst hC (0) dX8_opening_8 (by decide) ?_
    refine gz_iload_n hC dX8_opening_9 rfl ?_
    refine gz_callV2 hC dX8_opening_10 ml_X8_97 rfl rfl (by decide) (by decide) (Nat.le_of_ble_eq_true rfl) (ct_X8_isHand hJ _ _ d0 d1 F w hO hX _ _) (fun v10 M10 hp10 => ?_)
    obtain ⟨rfl, rfl⟩ := hp10
    refine gz_if_ne hC 19 dX8_opening_13 (by decide) (fun c13 => ?_) (fun c13 => ?_)
    · have q2 := gz_b1 c13
      obtain ⟨pl, hh, hp, hk, hp0, hh0⟩ := sp_hd_t hO q2
      have hpz : pl = 0 := by rcases (show pl = 0 ∨ pl = 1 by omega) with q | q; exact q; exact absurd (hp0.trans (by rw [q])) (by decide)
      subst hpz
      have T := tb_facts (cf_okP hO hp)
      refine gz_aload_n hC dX8_opening_19 rfl ?_
      refine gz_iconst hC (0) dX8_opening_20 (by decide) ?_
      refine gz_callV1 hC dX8_opening_21 ml_X8_170 rfl rfl (by decide) (by decide) (Nat.le_of_ble_eq_true rfl) (ct_X8_begin hJ _ _ d0 d1 F w hO hX 0 hp _ rfl) (fun v21 M21 hp21 => ?_)
      obtain ⟨J3, rfl, rfl, k11, kR⟩ := hp21
      obtain ⟨Jb, hJb⟩ : ∃ z, z = (gz_up (gz_up (gz_up (gz_up I 9 0 (-1)) 10 0 (-1)) 12 0 (-1)) 13 0 0) := ⟨_, rfl⟩
      rw [← hJb]
      have fJb : mr_J 0 I Jb := by rw [hJb]; exact mr_J_up (mr_J_up (mr_J_up (mr_J_up mr_J_0 (by decide) (Nat.le_refl _)) (by decide) (Nat.le_refl _)) (by decide) (Nat.le_refl _)) (by decide) (Nat.le_refl _)
      have hXb := xm_mr hX fJb
      have h4 : Jb 4 = I 4 := mr_J_o fJb 4 (by decide) (by decide) (by decide) (by decide)
      refine gz_aload_n hC dX8_opening_24 rfl ?_
      refine gz_iconst hC (0) dX8_opening_25 (by decide) ?_
      refine gz_iload_n hC dX8_opening_26 rfl ?_
      refine gz_iload_n hC dX8_opening_27 rfl ?_
      refine gz_iconst hC (0) dX8_opening_28 (by decide) ?_
      refine gz_callV4 hC dX8_opening_29 ml_X8_173 rfl rfl (by decide) (by decide) (Nat.le_of_ble_eq_true rfl) (ct_X8_answerOf hJ _ _ d0 d1 F w hO hXb 0 plan hh 0 0 (an_R0 d0 d1 F 0) 1056 hp hpl (by rw [h4]; exact hw) hk (Nat.le_refl _) (Nat.zero_le _) (by decide) (by decide) (fun k _ => an_R0_b hO hp k) (by rw [hJb, gz_up_at (by decide), gz_up_at (by decide), gz_up_at (by decide), gz_up_self]; exact nM_0) (by rw [hJb, gz_up_at (by decide), gz_up_at (by decide), gz_up_self]) (by rw [hJb, gz_up_at (by decide), gz_up_self]) (by rw [hJb, gz_up_self]) k11 kR _ _ _ _ rfl ha hh0 rfl) (fun v29 M29 hp29 => ?_)
      rw [h4] at hp29
      obtain ⟨J4, J5, rfl, rfl, hf2, h12⟩ := hp29
      refine gz_dstore_n hC dX8_opening_32 (by decide) ?_
      refine gz_aload_n hC dX8_opening_33 rfl ?_
      refine gz_getR (j := 22) hC dX8_opening_34 cf_X8 fl_X8_54 rfl rfl (by decide) ?_
      refine gz_iconst hC (0) dX8_opening_37 (by decide) ?_
      refine gz_iald hC dX8_opening_38 rfl (show vp_in (nI 0) 10 from vp_in_nI (by decide) (by decide)) ?_
      exact gz_iret hC dX8_opening_39 ⟨J4, J5, by unfold sp_open; rw [q1, q2, ha, hh0, nI_clamp (by omega), nI_clamp (by omega), show (0 : Int32).toNatClampNeg = 0 from rfl, h12 rfl]; rfl, rfl, mr_J_t fJb hf2 (Nat.le_refl _)⟩
    · have q2 := gz_b0 c13
      refine gz_bipush hC (-100) dX8_opening_16 (by decide) ?_
      exact gz_iret hC dX8_opening_18 ⟨I, G, by unfold sp_open; first | (rw [q1, q2, q3]; rfl) | (rw [q1, q2]; rfl) | (rw [q1]; rfl), rfl, mr_J_0⟩
set_option maxHeartbeats 4000000 in
set_option maxRecDepth 100000 in
theorem ct_X8_reply (hJ : gz_inj ad lm_lay) (I : Nat → Nat → Int32) (G : Nat → Nat → UInt64) (d0 d1 F : Nat) (w : Bool) (hO : cf_ok d0 d1 F) (hX : xm_tab d0 d1 F w I) (hw : wt_ok (I 4)) (a b b3 : Int32) : gz_Ct l D ad cy lm_lay yX8_reply cX8_reply 7 (some .int) 8 [.ref (ad 0), .int a, .int b, .int b3] (I, G) (fun v M1 => ∃ I1 G1, v = some (.int (sp_rep (I 4) d0 d1 F w a b b3)) ∧ M1 = (I1, G1) ∧ mr_J 0 I I1) := by
  refine gz_met (by decide +kernel) hJ (Nat.le_of_ble_eq_true rfl) ?_
  intro p e s m args below meth c hC
  refine gz_iload_n hC dX8_reply_0 rfl ?_
  refine gz_callS1 hC dX8_reply_1 ml_X8_117 (by decide) (by decide) (Nat.le_of_ble_eq_true rfl) (ct_X8_isPlan hJ _ _ _) (fun v1 M1 hp1 => ?_)
  obtain ⟨rfl, rfl⟩ := hp1
  refine gz_if_eq hC 24 dX8_reply_4 (by decide) (fun c4 => ?_) (fun c4 => ?_)
  · have q1 := gz_b0 c4
    refine gz_bipush hC (-100) dX8_reply_24 (by decide) ?_
    exact gz_iret hC dX8_reply_26 ⟨I, G, by unfold sp_rep; first | (rw [q1, q2, q3]; rfl) | (rw [q1, q2]; rfl) | (rw [q1]; rfl), rfl, mr_J_0⟩
  · have q1 := gz_b1 c4
    obtain ⟨plan, hpl, ha⟩ := gz_in_t (n := 4) (by decide) (by decide) q1
    refine gz_aload_n hC dX8_reply_7 rfl ?_
    refine gz_iconst hC (1) dX8_reply_8 (by decide) ?_
    refine gz_iload_n hC dX8_reply_9 rfl ?_
    refine gz_callV2 hC dX8_reply_10 ml_X8_97 rfl rfl (by decide) (by decide) (Nat.le_of_ble_eq_true rfl) (ct_X8_isHand hJ _ _ d0 d1 F w hO hX _ _) (fun v10 M10 hp10 => ?_)
    obtain ⟨rfl, rfl⟩ := hp10
    refine gz_if_eq hC 24 dX8_reply_13 (by decide) (fun c13 => ?_) (fun c13 => ?_)
    · have q2 := gz_b0 c13
      refine gz_bipush hC (-100) dX8_reply_24 (by decide) ?_
      exact gz_iret hC dX8_reply_26 ⟨I, G, by unfold sp_rep; first | (rw [q1, q2, q3]; rfl) | (rw [q1, q2]; rfl) | (rw [q1]; rfl), rfl, mr_J_0⟩
    · have q2 := gz_b1 c13
      obtain ⟨pl, hh, hp, hk, hp0, hh0⟩ := sp_hd_t hO q2
      have hpz : pl = 1 := by rcases (show pl = 0 ∨ pl = 1 by omega) with q | q; exact absurd (hp0.trans (by rw [q])) (by decide); exact q
      subst hpz
      have T := tb_facts (cf_okP hO hp)
      have Bd := cf_bids hO
      refine gz_aload_n hC dX8_reply_16 rfl ?_
      refine gz_iload_n hC dX8_reply_17 rfl ?_
      refine gz_callV1 hC dX8_reply_18 ml_X8_105 rfl rfl (by decide) (by decide) (Nat.le_of_ble_eq_true rfl) (ct_X8_isBid hJ _ _ d0 d1 F w hX.1 _) (fun v18 M18 hp18 => ?_)
      obtain ⟨rfl, rfl⟩ := hp18
      refine gz_if_ne hC 27 dX8_reply_21 (by decide) (fun c21 => ?_) (fun c21 => ?_)
      · have q3 := gz_b1 c21
        obtain ⟨bb, hbb, hb0⟩ := sp_bid_t hO q3
        refine gz_aload_n hC dX8_reply_27 rfl ?_
        refine gz_iconst hC (1) dX8_reply_28 (by decide) ?_
        refine gz_callV1 hC dX8_reply_29 ml_X8_170 rfl rfl (by decide) (by decide) (Nat.le_of_ble_eq_true rfl) (ct_X8_begin hJ _ _ d0 d1 F w hO hX 1 hp _ rfl) (fun v29 M29 hp29 => ?_)
        obtain ⟨J3, rfl, rfl, k11, kR⟩ := hp29
        obtain ⟨Jb, hJb⟩ : ∃ z, z = (gz_up (gz_up (gz_up (gz_up I 9 0 (-1)) 10 0 (-1)) 12 0 (-1)) 13 0 0) := ⟨_, rfl⟩
        rw [← hJb]
        have fJb : mr_J 0 I Jb := by rw [hJb]; exact mr_J_up (mr_J_up (mr_J_up (mr_J_up mr_J_0 (by decide) (Nat.le_refl _)) (by decide) (Nat.le_refl _)) (by decide) (Nat.le_refl _)) (by decide) (Nat.le_refl _)
        have hXb := xm_mr hX fJb
        have h4 : Jb 4 = I 4 := mr_J_o fJb 4 (by decide) (by decide) (by decide) (by decide)
        have hb9 : b3 = nI (bb + 1) - 1 := hb0.trans (nI_pred bb).symm
        refine gz_aload_n hC dX8_reply_32 rfl ?_
        refine gz_iconst hC (1) dX8_reply_33 (by decide) ?_
        refine gz_iload_n hC dX8_reply_34 rfl ?_
        refine gz_iconst hC (0) dX8_reply_35 (by decide) ?_
        refine gz_iload_n hC dX8_reply_36 rfl ?_
        refine gz_callV4 hC dX8_reply_37 ml_X8_158 rfl rfl (by decide) (by decide) (Nat.le_of_ble_eq_true rfl) (ct_X8_leads hJ _ _ d0 d1 F w hO hXb plan 1 0 0 (an_R0 d0 d1 F 1) 1056 hp hpl (by rw [h4]; exact hw) (by decide) (Nat.zero_le _) (by rw [hJb, gz_up_at (by decide), gz_up_at (by decide), gz_up_at (by decide), gz_up_self]; exact nM_0) (by decide) (by decide) (fun k _ => an_R0_b hO hp k) kR (bb + 1) (by omega) (by unfold tb_mf; rw [decide_eq_false (Nat.succ_ne_zero bb), decide_eq_true (Nat.succ_pos bb)]; rfl) _ _ _ _ rfl ha rfl hb9) (fun v37 M37 hp37 => ?_)
        rw [h4] at hp37
        obtain ⟨J4, rfl, rfl, kR1, kf⟩ := hp37
        refine gz_istore hC dX8_reply_40 (by decide) ?_
        refine gz_aload_n hC dX8_reply_42 rfl ?_
        refine gz_iconst hC (1) dX8_reply_43 (by decide) ?_
        refine gz_iload_n hC dX8_reply_44 rfl ?_
        refine gz_callV2 hC dX8_reply_45 ml_X8_166 rfl rfl (by decide) (by decide) (Nat.le_of_ble_eq_true rfl) (ct_X8_enter hJ _ _ 1 (by decide) _ _ rfl) (fun v45 M45 hp45 => ?_)
        obtain ⟨rfl, rfl⟩ := hp45
        obtain ⟨Jc, hJc⟩ : ∃ z, z = gz_up (gz_up (gz_up (gz_up Jb 9 1 b3) 10 1 (-1)) 12 1 (-1)) 13 1 0 := ⟨_, rfl⟩
        rw [← hJc]
        have fJc : mr_J 0 Jb Jc := by rw [hJc]; exact mr_J_up (mr_J_up (mr_J_up (mr_J_up mr_J_0 (by decide) (Nat.zero_le _)) (by decide) (Nat.zero_le _)) (by decide) (Nat.zero_le _)) (by decide) (Nat.zero_le _)
        have hXc := xm_mr hXb fJc
        have h4c : Jc 4 = I 4 := (mr_J_o fJc 4 (by decide) (by decide) (by decide) (by decide)).trans h4
        refine gz_aload_n hC dX8_reply_48 rfl ?_
        refine gz_iconst hC (1) dX8_reply_49 (by decide) ?_
        refine gz_iload_n hC dX8_reply_50 rfl ?_
        refine gz_iload_n hC dX8_reply_51 rfl ?_
        refine gz_iconst hC (1) dX8_reply_52 (by decide) ?_
        refine gz_callV4 hC dX8_reply_53 ml_X8_173 rfl rfl (by decide) (by decide) (Nat.le_of_ble_eq_true rfl) (ct_X8_answerOf hJ _ _ d0 d1 F w hO hXc 1 plan hh 1 (bb + 1) (an_R1 (I 4) d0 d1 F plan (bb + 1)) 1091 hp hpl (by rw [h4c]; exact hw) hk (by omega) (by omega) (by decide) (by decide) (an_R_b (an_S_ok hw hO hpl hp) (K := 1056) (by decide) (by decide) (fun k _ => an_R0_b hO hp k) (Nat.zero_le _) (by omega)) (by rw [hJc, gz_up_at (by decide), gz_up_at (by decide), gz_up_at (by decide), gz_up_self]; exact hb9) (by rw [hJc, gz_up_at (by decide), gz_up_at (by decide), gz_up_self]) (by rw [hJc, gz_up_at (by decide), gz_up_self]) (by rw [hJc, gz_up_self]) gz_up_self (fun k hk => by rw [gz_up_at (by decide)]; exact kR1 k hk) _ _ _ _ rfl ha hh0 rfl) (fun v53 M53 hp53 => ?_)
        rw [h4c] at hp53
        obtain ⟨J5, J6, rfl, rfl, hf2, h12⟩ := hp53
        refine gz_dstore hC dX8_reply_56 (by decide) ?_
        refine gz_aload_n hC dX8_reply_58 rfl ?_
        refine gz_getR (j := 22) hC dX8_reply_59 cf_X8 fl_X8_54 rfl rfl (by decide) ?_
        refine gz_iconst hC (1) dX8_reply_62 (by decide) ?_
        refine gz_iald hC dX8_reply_63 rfl (show vp_in (nI 1) 10 from vp_in_nI (by decide) (by decide)) ?_
        exact gz_iret hC dX8_reply_64 ⟨J5, J6, by unfold sp_rep; rw [q1, q2, q3, ha, hh0, hb0, nI_clamp (by omega), nI_clamp (by omega), nI_clamp (by omega), an_rb_eq w hh hw hO hpl (Nat.succ_ne_zero bb) (by omega), show (1 : Int32).toNatClampNeg = 1 from rfl, h12 rfl]; rfl, rfl, mr_J_t (mr_J_t fJb fJc (Nat.le_refl _)) (fun o j h1 h2 h3 h5 => hf2 o j (by omega) (by omega) (by omega) (by omega)) (Nat.le_refl _)⟩
      · have q3 := gz_b0 c21
        refine gz_bipush hC (-100) dX8_reply_24 (by decide) ?_
        exact gz_iret hC dX8_reply_26 ⟨I, G, by unfold sp_rep; first | (rw [q1, q2, q3]; rfl) | (rw [q1, q2]; rfl) | (rw [q1]; rfl), rfl, mr_J_0⟩
end CT
