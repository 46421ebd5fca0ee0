/-! the model: two plans against one another -/
section CT
variable {l : Launch} {D : va_G} {ad : Nat → Nat} {cy : Nat → ClassId}
set_option maxHeartbeats 4000000 in
set_option maxRecDepth 100000 in
theorem ct_X8_worthOf (hJ : gz_inj ad lm_lay) (I : Nat → Nat → Int32) (G : Nat → Nat → UInt64) (d0 d1 F : Nat) (w : Bool) (hO : cf_ok d0 d1 F) (hX : xm_tab d0 d1 F w I) (pa pb g h : Nat) (x1 x2 x3 x4 : Int32) (hx1 : x1 = nI pa) (hx2 : x2 = nI pb) (hx3 : x3 = nI g) (hx4 : x4 = nI h) (hp : pa < 4) (hq : pb < 4) (hg : g < tb_n d0 F) (hh : h < tb_n d1 F) (hw : wt_ok (I 4)) : gz_Ct l D ad cy lm_lay yX8_worthOf cX8_worthOf 16 (some .double) 5 [.ref (ad 0), .int x1, .int x2, .int x3, .int x4] (I, G) (fun v M1 => ∃ G1, v = some (.double (wo_e (I 4) d0 d1 F w pa pb g h)) ∧ M1 = (I, G1)) := by
  have T := tb_facts hO.1
  have U := tb_facts hO.2.1
  have Bd := cf_bids hO
  have hSb := wo_S_b hw hO hp hq (show g < 4 by omega) (show h < 4 by omega)
  refine gz_met (by decide +kernel) hJ (Nat.le_of_ble_eq_true rfl) ?_
  intro p e s m args below meth c hC
  refine gz_aload_n hC dX8_worthOf_0 rfl ?_
  refine gz_callV0 hC dX8_worthOf_1 ml_X8_89 rfl rfl (by decide) (by decide) (Nat.le_of_ble_eq_true rfl) (ct_X8_most hJ _ _ d0 d1 F w hX.1) (fun v1 M1 hp1 => ?_)
  obtain ⟨rfl, rfl⟩ := hp1
  refine gz_iconst hC (1) dX8_worthOf_4 (by decide) ?_
  refine gz_isub hC dX8_worthOf_5 ?_
  refine gz_istore hC dX8_worthOf_6 (by decide) ?_
  have lpf : ∀ (j : Nat) (hj : j ≤ ((d0 + d1) * F) + 1) (J : Nat → Nat → UInt64) (x5 : Int32) (z1 : j = 0 → x5 = -2) (z2 : ∀ la, j = la + 1 → x5 = nI la - 1) (hE : j = 0 → J 7 8 = ev_t (wo_S (I 4) d0 d1 F pa pb g h) (tb_t d0 d1 F w g h) ((d0 + d1) * F) (((d0 + d1) * F) + 1) 0 0) (hT : ∀ q, j ≤ q → 1 ≤ q → q ≤ ((d0 + d1) * F) → ∀ m2, m2 < 2 → J 7 (9 * m2 + (q - 1)) = ev_t (wo_S (I 4) d0 d1 F pa pb g h) (tb_t d0 d1 F w g h) ((d0 + d1) * F) (((d0 + d1) * F) + 1 - j) q m2), gz_W p l e (gz_rm 5) s m args below meth c D ad cy lm_lay 16 (MQ below (gz_Q D ad cy lm_lay (fun v M1 => ∃ G1, v = some (.double (wo_e (I 4) d0 d1 F w pa pb g h)) ∧ M1 = (I, G1))) args s 0 0 (gz_A ad lm_lay)) (I, J) 8 [(0, .ref (ad 0)), (1, .int x1), (2, .int x2), (3, .int x3), (4, .int x4), (5, .int x5)] [] := by
    intro j
    induction j with
    | zero =>
      intro hj J x5 z1 z2 hE hT
      refine gz_iload hC dX8_worthOf_8 rfl ?_
      refine gz_iconst hC (-1) dX8_worthOf_10 (by decide) ?_
      refine gz_icmp_lt hC 197 dX8_worthOf_11 (by decide) (fun c11 => ?_) (fun c11 => ?_)
      · refine gz_aload_n hC dX8_worthOf_197 rfl ?_
        refine gz_getR (j := 17) hC dX8_worthOf_198 cf_X8 fl_X8_38 rfl rfl (by decide) ?_
        refine gz_bipush hC (8) dX8_worthOf_201 (by decide) ?_
        refine gz_dald hC dX8_worthOf_203 rfl (show vp_in (nI 8) 18 from vp_in_nI (by decide) (by decide)) ?_
        exact gz_dret hC dX8_worthOf_204 ⟨J, by rw [show (8 : Int32).toNatClampNeg = 8 from rfl, hE rfl]; rfl, rfl⟩
      · exact absurd (by rw [z1 rfl]; decide) c11
    | succ la ih1 =>
      intro hj J x5 z1 z2 hE hT
      have hx5 := z2 la rfl
      have hla : la ≤ ((d0 + d1) * F) := by omega
      refine gz_iload hC dX8_worthOf_8 rfl ?_
      refine gz_iconst hC (-1) dX8_worthOf_10 (by decide) ?_
      refine gz_icmp_lt hC 197 dX8_worthOf_11 (by decide) (fun c11 => ?_) (fun c11 => ?_)
      · exact absurd c11 (by rw [hx5]; intro z; have z2 : (nI la - 1).toInt < -1 := Int32.lt_iff_toInt_lt.mp z; rw [nM_int (by omega)] at z2; omega)
      · refine gz_iconst hC (0) dX8_worthOf_14 (by decide) ?_
        refine gz_istore hC dX8_worthOf_15 (by decide) ?_
        have lpw : ∀ (n2 mv : Nat) (J : Nat → Nat → UInt64) (x6 : Int32) (hi2 : mv + n2 = 2) (hx6 : x6 = nI mv) (hT : ∀ q, la < q → q ≤ ((d0 + d1) * F) → ∀ m2, m2 < 2 → J 7 (9 * m2 + (q - 1)) = ev_t (wo_S (I 4) d0 d1 F pa pb g h) (tb_t d0 d1 F w g h) ((d0 + d1) * F) (((d0 + d1) * F) - la) q m2) (hD : ∀ m2, m2 < mv → J 7 (9 * m2 + (if la = 0 then 8 else la - 1)) = ev_t (wo_S (I 4) d0 d1 F pa pb g h) (tb_t d0 d1 F w g h) ((d0 + d1) * F) (((d0 + d1) * F) - la + 1) la m2), gz_W p l e (gz_rm 5) s m args below meth c D ad cy lm_lay 16 (MQ below (gz_Q D ad cy lm_lay (fun v M1 => ∃ G1, v = some (.double (wo_e (I 4) d0 d1 F w pa pb g h)) ∧ M1 = (I, G1))) args s 0 0 (gz_A ad lm_lay)) (I, J) 17 [(0, .ref (ad 0)), (1, .int x1), (2, .int x2), (3, .int x3), (4, .int x4), (5, .int x5), (6, .int x6)] [] := by
          intro n2
          induction n2 with
          | zero =>
            intro mv J x6 hi2 hx6 hT hD
            refine gz_iload hC dX8_worthOf_17 rfl ?_
            refine gz_iconst hC (2) dX8_worthOf_19 (by decide) ?_
            refine gz_icmp_ge hC 191 dX8_worthOf_20 (by decide) (fun c20 => ?_) (fun c20 => ?_)
            · refine gz_iinc hC (-1) dX8_worthOf_191 rfl (by decide) (by decide) ?_
              refine gz_goto hC 8 dX8_worthOf_194 (by decide) ?_
              refine gz_lw [(0, .ref (ad 0)), (1, .int x1), (2, .int x2), (3, .int x3), (4, .int x4), (5, .int (x5 + (-1)))] ⟨rfl, rfl, rfl, rfl, rfl, rfl, trivial⟩ ?_
              exact ih1 (by omega) J _ (fun e => by subst e; rw [hx5]; decide) (fun q hq => by subst hq; rw [hx5, nI_pred]; exact (Int32.sub_eq_add_neg _ _).symm) (fun e => by subst e; have z := hD 0 (by omega); rw [show ((d0 + d1) * F) - 0 + 1 = ((d0 + d1) * F) + 1 by omega] at z; exact z) (fun q hq1 hq0 hq2 m2 hm2 => by
                by_cases e : q = la
                · subst e; have z := hD m2 (by omega); rw [if_neg (by omega)] at z; rw [z, show ((d0 + d1) * F) + 1 - q = ((d0 + d1) * F) - q + 1 by omega]
                · rw [hT q (by omega) hq2 m2 hm2, show ((d0 + d1) * F) + 1 - la = ((d0 + d1) * F) - la + 1 by omega, ev_t_ne (by omega)])
            · exact absurd (gz_ile gz_n2 hx6 (by omega) (by omega)) c20
          | succ n2 ih2 =>
            intro mv J x6 hi2 hx6 hT hD
            refine gz_iload hC dX8_worthOf_17 rfl ?_
            refine gz_iconst hC (2) dX8_worthOf_19 (by decide) ?_
            refine gz_icmp_ge hC 191 dX8_worthOf_20 (by decide) (fun c20 => ?_) (fun c20 => ?_)
            · exact absurd c20 (gz_inle gz_n2 hx6 (by omega) (by omega))
            · refine gz_iload hC dX8_worthOf_23 rfl ?_
              have hmv : mv < 2 := by omega
              have rest48 : ∀ (plan own : Nat) (x7 x8 : Int32) (hx7 : x7 = nI plan) (hx8 : x8 = nI own) (hpl : plan < 4) (how : own < 4) (hSv : ∀ q, q ≤ ((d0 + d1) * F) → sh_v (I 4) (tb_ix plan (tb_d d0 d1 mv) own la 0) la ((d0 + d1) * F) q = (wo_S (I 4) d0 d1 F pa pb g h) mv la q), gz_W p l e (gz_rm 5) s m args below meth c D ad cy lm_lay 16 (MQ below (gz_Q D ad cy lm_lay (fun v M1 => ∃ G1, v = some (.double (wo_e (I 4) d0 d1 F w pa pb g h)) ∧ M1 = (I, G1))) args s 0 0 (gz_A ad lm_lay)) (I, J) 48 [(0, .ref (ad 0)), (1, .int x1), (2, .int x2), (3, .int x3), (4, .int x4), (5, .int x5), (6, .int x6), (7, .int x7), (8, .int x8)] [] := by
                intro plan own x7 x8 hx7 hx8 hpl how hSv
                have hVb : ∀ q, q ≤ ((d0 + d1) * F) → tb_mf la q = true → fp_b (1024 + 53 * (((d0 + d1) * F) - la)) ((ev_V (decide (mv = 1) == tb_t d0 d1 F w g h (la - 1)) (fun q => ev_t (wo_S (I 4) d0 d1 F pa pb g h) (tb_t d0 d1 F w g h) ((d0 + d1) * F) (((d0 + d1) * F) - la) q (1 - mv))) q) := by
                  intro q hq hm
                  unfold ev_V
                  split
                  · cases decide (mv = 1) == tb_t d0 d1 F w g h (la - 1)
                    · exact fp_b_mono fp_b_0 (by omega)
                    · exact fp_b_mono fp_b_1 (by omega)
                  · exact ev_t_b (by omega) hSb (((d0 + d1) * F) - la) (by omega) q hq _ (by omega)
                refine gz_dconst0 hC dX8_worthOf_48 ?_
                refine gz_dstore hC dX8_worthOf_49 (by decide) ?_
                refine gz_iconst hC (-1) dX8_worthOf_51 (by decide) ?_
                refine gz_istore hC dX8_worthOf_52 (by decide) ?_
                have lpm : ∀ (n q : Nat) (y : UInt64) (x11 : Int32) (hi : q + n = ((d0 + d1) * F) + 1) (hx11 : x11 = nI q - 1) (hy : y = ev_f ((wo_S (I 4) d0 d1 F pa pb g h) mv la) (ev_V (decide (mv = 1) == tb_t d0 d1 F w g h (la - 1)) (fun q => ev_t (wo_S (I 4) d0 d1 F pa pb g h) (tb_t d0 d1 F w g h) ((d0 + d1) * F) (((d0 + d1) * F) - la) q (1 - mv))) la q), gz_W p l e (gz_rm 5) s m args below meth c D ad cy lm_lay 16 (MQ below (gz_Q D ad cy lm_lay (fun v M1 => ∃ G1, v = some (.double (wo_e (I 4) d0 d1 F w pa pb g h)) ∧ M1 = (I, G1))) args s 0 0 (gz_A ad lm_lay)) (I, J) 54 [(0, .ref (ad 0)), (1, .int x1), (2, .int x2), (3, .int x3), (4, .int x4), (5, .int x5), (6, .int x6), (7, .int x7), (8, .int x8), (9, .double y), (11, .int x11)] [] := by
                  intro n
                  induction n with
                  | zero =>
                    intro q y x11 hi hx11 hy
                    refine gz_iload hC dX8_worthOf_54 rfl ?_
                    refine gz_aload_n hC dX8_worthOf_56 rfl ?_
                    refine gz_callV0 hC dX8_worthOf_57 ml_X8_89 rfl rfl (by decide) (by decide) (Nat.le_of_ble_eq_true rfl) (ct_X8_most hJ _ _ d0 d1 F w hX.1) (fun v57 M57 hp57 => ?_)
                    obtain ⟨rfl, rfl⟩ := hp57
                    refine gz_icmp_ge hC 159 dX8_worthOf_60 (by decide) (fun c60 => ?_) (fun c60 => ?_)
                    · refine gz_aload_n hC dX8_worthOf_159 rfl ?_
                      refine gz_getR (j := 17) hC dX8_worthOf_160 cf_X8 fl_X8_38 rfl rfl (by decide) ?_
                      refine gz_bipush hC (9) dX8_worthOf_163 (by decide) ?_
                      refine gz_iload hC dX8_worthOf_165 rfl ?_
                      refine gz_imul hC dX8_worthOf_167 ?_
                      refine gz_iload hC dX8_worthOf_168 rfl ?_
                      refine gz_iconst hC (-1) dX8_worthOf_170 (by decide) ?_
                      refine gz_icmp_ne hC 179 dX8_worthOf_171 (by decide) (fun c171 => ?_) (fun c171 => ?_)
                      · have hl0 : ¬ la = 0 := fun q => c171 (by rw [hx5, q]; rfl)
                        have hix : 9 * x6 + x5 = nI (9 * mv + (if la = 0 then 8 else la - 1)) := by rw [if_neg hl0, hx5, hx6, gz_n9, gz_n1, pk_sub (by omega), pk_mul, nI_add]
                        refine gz_iload hC dX8_worthOf_179 rfl ?_
                        refine gz_iadd hC dX8_worthOf_181 ?_
                        refine gz_dload hC dX8_worthOf_182 rfl ?_
                        rw [hix]
                        have hid : (9 * mv + (if la = 0 then 8 else la - 1)) < 18 := by split <;> omega
                        refine gz_dast hC dX8_worthOf_184 rfl (vp_in_nI hid (by decide)) ?_
                        rw [nI_clamp (show (9 * mv + (if la = 0 then 8 else la - 1)) < 2 ^ 31 by omega)]
                        refine gz_iinc hC (1) dX8_worthOf_185 rfl (by decide) (by decide) ?_
                        refine gz_goto hC 17 dX8_worthOf_188 (by decide) ?_
                        refine gz_lw [(0, .ref (ad 0)), (1, .int x1), (2, .int x2), (3, .int x3), (4, .int x4), (5, .int x5), (6, .int (x6 + 1))] ⟨rfl, rfl, rfl, rfl, rfl, rfl, rfl, trivial⟩ ?_
                        exact ih2 (mv + 1) _ _ (by omega) (gz_i1 hx6) (fun q hq1 hq2 m2 hm2 => by rw [gz_up_oth (by split <;> omega)]; exact hT q hq1 hq2 m2 hm2) (fun m2 hm2 => by
                          by_cases e : m2 = mv
                          · subst e; rw [gz_up_self, hy, show q = ((d0 + d1) * F) + 1 by omega, ev_t_eq (show la = ((d0 + d1) * F) - (((d0 + d1) * F) - la) by omega)]
                          · rw [gz_up_oth (by split <;> omega)]; exact hD m2 (by omega))
                      · have hl0 : la = 0 := by
                          have q := nM_to hx5
                          rw [c171] at q
                          exact ((nI_eq (a := 0) (b := la) (by omega) (by omega)).mp q).symm
                        have hix : 9 * x6 + 8 = nI (9 * mv + (if la = 0 then 8 else la - 1)) := by rw [if_pos hl0, hx6, gz_n9, show (8 : Int32) = nI 8 from rfl, pk_mul, nI_add]
                        refine gz_bipush hC (8) dX8_worthOf_174 (by decide) ?_
                        refine gz_goto hC 181 dX8_worthOf_176 (by decide) ?_
                        refine gz_iadd hC dX8_worthOf_181 ?_
                        refine gz_dload hC dX8_worthOf_182 rfl ?_
                        rw [hix]
                        have hid : (9 * mv + (if la = 0 then 8 else la - 1)) < 18 := by split <;> omega
                        refine gz_dast hC dX8_worthOf_184 rfl (vp_in_nI hid (by decide)) ?_
                        rw [nI_clamp (show (9 * mv + (if la = 0 then 8 else la - 1)) < 2 ^ 31 by omega)]
                        refine gz_iinc hC (1) dX8_worthOf_185 rfl (by decide) (by decide) ?_
                        refine gz_goto hC 17 dX8_worthOf_188 (by decide) ?_
                        refine gz_lw [(0, .ref (ad 0)), (1, .int x1), (2, .int x2), (3, .int x3), (4, .int x4), (5, .int x5), (6, .int (x6 + 1))] ⟨rfl, rfl, rfl, rfl, rfl, rfl, rfl, trivial⟩ ?_
                        exact ih2 (mv + 1) _ _ (by omega) (gz_i1 hx6) (fun q hq1 hq2 m2 hm2 => by rw [gz_up_oth (by split <;> omega)]; exact hT q hq1 hq2 m2 hm2) (fun m2 hm2 => by
                          by_cases e : m2 = mv
                          · subst e; rw [gz_up_self, hy, show q = ((d0 + d1) * F) + 1 by omega, ev_t_eq (show la = ((d0 + d1) * F) - (((d0 + d1) * F) - la) by omega)]
                          · rw [gz_up_oth (by split <;> omega)]; exact hD m2 (by omega))
                    · exact absurd (nM_ge hx11 rfl (by omega) (by omega) (by omega)) c60
                  | succ n ih =>
                    intro q y x11 hi hx11 hy
                    refine gz_iload hC dX8_worthOf_54 rfl ?_
                    refine gz_aload_n hC dX8_worthOf_56 rfl ?_
                    refine gz_callV0 hC dX8_worthOf_57 ml_X8_89 rfl rfl (by decide) (by decide) (Nat.le_of_ble_eq_true rfl) (ct_X8_most hJ _ _ d0 d1 F w hX.1) (fun v57 M57 hp57 => ?_)
                    obtain ⟨rfl, rfl⟩ := hp57
                    refine gz_icmp_ge hC 159 dX8_worthOf_60 (by decide) (fun c60 => ?_) (fun c60 => ?_)
                    · exact absurd c60 (nM_nge hx11 rfl (by omega) (by omega) (by omega))
                    · refine gz_aload_n hC dX8_worthOf_63 rfl ?_
                      refine gz_iload hC dX8_worthOf_64 rfl ?_
                      refine gz_iload hC dX8_worthOf_66 rfl ?_
                      refine gz_callV2 hC dX8_worthOf_68 ml_X8_120 rfl rfl (by decide) (by decide) (Nat.le_of_ble_eq_true rfl) (ct_X8_mayMove hJ _ _ d0 d1 F w hX.1 _ _) (fun v68 M68 hp68 => ?_)
                      obtain ⟨rfl, rfl⟩ := hp68
                      rw [show sp_bon d0 d1 F x11 = true by rw [hx11]; exact sp_bon_N hO (by omega), Bool.true_and, gz_mfN hx5 hx11 (by omega) (by omega)]
                      refine gz_if_eq hC 153 dX8_worthOf_71 (by decide) (fun c71 => ?_) (fun c71 => ?_)
                      · have hb := gz_b0 c71
                        refine gz_iinc hC (1) dX8_worthOf_153 rfl (by decide) (by decide) ?_
                        refine gz_goto hC 54 dX8_worthOf_156 (by decide) ?_
                        refine gz_lw [(0, .ref (ad 0)), (1, .int x1), (2, .int x2), (3, .int x3), (4, .int x4), (5, .int x5), (6, .int x6), (7, .int x7), (8, .int x8), (9, .double y), (11, .int (x11 + 1))] ⟨rfl, rfl, rfl, rfl, rfl, rfl, rfl, rfl, rfl, rfl, rfl, trivial⟩ ?_
                        exact ih (q + 1) _ _ (by omega) (nM_s hx11) (by rw [hy]; show _ = cond (tb_mf la q && fp_pos ((wo_S (I 4) d0 d1 F pa pb g h) mv la q)) (FP.dadd (ev_f ((wo_S (I 4) d0 d1 F pa pb g h) mv la) (ev_V (decide (mv = 1) == tb_t d0 d1 F w g h (la - 1)) (fun q => ev_t (wo_S (I 4) d0 d1 F pa pb g h) (tb_t d0 d1 F w g h) ((d0 + d1) * F) (((d0 + d1) * F) - la) q (1 - mv))) la q) (FP.dmul ((wo_S (I 4) d0 d1 F pa pb g h) mv la q) ((ev_V (decide (mv = 1) == tb_t d0 d1 F w g h (la - 1)) (fun q => ev_t (wo_S (I 4) d0 d1 F pa pb g h) (tb_t d0 d1 F w g h) ((d0 + d1) * F) (((d0 + d1) * F) - la) q (1 - mv))) q))) (ev_f ((wo_S (I 4) d0 d1 F pa pb g h) mv la) (ev_V (decide (mv = 1) == tb_t d0 d1 F w g h (la - 1)) (fun q => ev_t (wo_S (I 4) d0 d1 F pa pb g h) (tb_t d0 d1 F w g h) ((d0 + d1) * F) (((d0 + d1) * F) - la) q (1 - mv))) la q); rw [hb]; rfl)
                      · have hmq := gz_b1 c71
                        refine gz_aload_n hC dX8_worthOf_74 rfl ?_
                        refine gz_iload hC dX8_worthOf_75 rfl ?_
                        refine gz_iload hC dX8_worthOf_77 rfl ?_
                        refine gz_iload hC dX8_worthOf_79 rfl ?_
                        refine gz_iload hC dX8_worthOf_81 rfl ?_
                        refine gz_iload hC dX8_worthOf_83 rfl ?_
                        refine gz_callV5 hC dX8_worthOf_85 ml_X8_131 rfl rfl (by decide) (by decide) (Nat.le_of_ble_eq_true rfl) (ct_X8_part hJ _ _ d0 d1 F w hO hX plan mv own la hmv hpl (by omega) hla hw _ _ _ _ hx7 hx6 hx8 hx5 q (by omega) hmq _ hx11) (fun v85 M85 hp85 => ?_)
                        obtain ⟨rfl, rfl⟩ := hp85
                        rw [hSv q (by omega)]
                        refine gz_dstore hC dX8_worthOf_88 (by decide) ?_
                        refine gz_dload hC dX8_worthOf_90 rfl ?_
                        refine gz_dconst0 hC dX8_worthOf_92 ?_
                        refine gz_dcmp hC dX8_worthOf_93 ?_
                        refine gz_if_le hC 153 dX8_worthOf_94 (by decide) (fun c94 => ?_) (fun c94 => ?_)
                        · have hp := fp_leF c94
                          refine gz_iinc hC (1) dX8_worthOf_153 rfl (by decide) (by decide) ?_
                          refine gz_goto hC 54 dX8_worthOf_156 (by decide) ?_
                          refine gz_lw [(0, .ref (ad 0)), (1, .int x1), (2, .int x2), (3, .int x3), (4, .int x4), (5, .int x5), (6, .int x6), (7, .int x7), (8, .int x8), (9, .double y), (11, .int (x11 + 1))] ⟨rfl, rfl, rfl, rfl, rfl, rfl, rfl, rfl, rfl, rfl, rfl, trivial⟩ ?_
                          exact ih (q + 1) _ _ (by omega) (nM_s hx11) (by rw [hy]; show _ = cond (tb_mf la q && fp_pos ((wo_S (I 4) d0 d1 F pa pb g h) mv la q)) (FP.dadd (ev_f ((wo_S (I 4) d0 d1 F pa pb g h) mv la) (ev_V (decide (mv = 1) == tb_t d0 d1 F w g h (la - 1)) (fun q => ev_t (wo_S (I 4) d0 d1 F pa pb g h) (tb_t d0 d1 F w g h) ((d0 + d1) * F) (((d0 + d1) * F) - la) q (1 - mv))) la q) (FP.dmul ((wo_S (I 4) d0 d1 F pa pb g h) mv la q) ((ev_V (decide (mv = 1) == tb_t d0 d1 F w g h (la - 1)) (fun q => ev_t (wo_S (I 4) d0 d1 F pa pb g h) (tb_t d0 d1 F w g h) ((d0 + d1) * F) (((d0 + d1) * F) - la) q (1 - mv))) q))) (ev_f ((wo_S (I 4) d0 d1 F pa pb g h) mv la) (ev_V (decide (mv = 1) == tb_t d0 d1 F w g h (la - 1)) (fun q => ev_t (wo_S (I 4) d0 d1 F pa pb g h) (tb_t d0 d1 F w g h) ((d0 + d1) * F) (((d0 + d1) * F) - la) q (1 - mv))) la q); rw [show fp_pos ((wo_S (I 4) d0 d1 F pa pb g h) mv la q) = false from hp, Bool.and_false]; rfl)
                        · have hp1 : fp_pos ((wo_S (I 4) d0 d1 F pa pb g h) mv la q) = true := fp_leT c94
                          have rest141 : ∀ (z : UInt64) (hz : z = (ev_V (decide (mv = 1) == tb_t d0 d1 F w g h (la - 1)) (fun q => ev_t (wo_S (I 4) d0 d1 F pa pb g h) (tb_t d0 d1 F w g h) ((d0 + d1) * F) (((d0 + d1) * F) - la) q (1 - mv))) q), gz_W p l e (gz_rm 5) s m args below meth c D ad cy lm_lay 16 (MQ below (gz_Q D ad cy lm_lay (fun v M1 => ∃ G1, v = some (.double (wo_e (I 4) d0 d1 F w pa pb g h)) ∧ M1 = (I, G1))) args s 0 0 (gz_A ad lm_lay)) (I, J) 141 [(0, .ref (ad 0)), (1, .int x1), (2, .int x2), (3, .int x3), (4, .int x4), (5, .int x5), (6, .int x6), (7, .int x7), (8, .int x8), (9, .double y), (11, .int x11), (12, .double ((wo_S (I 4) d0 d1 F pa pb g h) mv la q))] [.double z] := by
                            intro z hz
                            have hterm := fp_b_mul (hSb mv hmv la hla q (by omega)) (hVb q (by omega) hmq) (by decide) (by omega) (by omega) (by omega)
                            have hacc := ev_f_b (S := (wo_S (I 4) d0 d1 F pa pb g h) mv la) (V := (ev_V (decide (mv = 1) == tb_t d0 d1 F w g h (la - 1)) (fun q => ev_t (wo_S (I 4) d0 d1 F pa pb g h) (tb_t d0 d1 F w g h) ((d0 + d1) * F) (((d0 + d1) * F) - la) q (1 - mv)))) (la := la) (K := 1024 + 53 * (((d0 + d1) * F) - la)) (by omega) q (fun q2 hq2 hm => ⟨hSb mv hmv la hla q2 (by omega), hVb q2 (by omega) hm⟩) (by omega)
                            rw [← hy] at hacc
                            rw [← hz] at hterm
                            refine gz_dstore hC dX8_worthOf_141 (by decide) ?_
                            refine gz_dload hC dX8_worthOf_143 rfl ?_
                            refine gz_dload hC dX8_worthOf_145 rfl ?_
                            refine gz_dload hC dX8_worthOf_147 rfl ?_
                            refine gz_dmul hC dX8_worthOf_149 (fp_b_n64 hterm (by omega)) ?_
                            refine gz_dadd hC dX8_worthOf_150 (fp_b_n64 (fp_b_add hacc (fp_b_mono hterm (by omega)) (by omega)) (by omega)) ?_
                            refine gz_dstore hC dX8_worthOf_151 (by decide) ?_
                            refine gz_iinc hC (1) dX8_worthOf_153 rfl (by decide) (by decide) ?_
                            refine gz_goto hC 54 dX8_worthOf_156 (by decide) ?_
                            refine gz_lw [(0, .ref (ad 0)), (1, .int x1), (2, .int x2), (3, .int x3), (4, .int x4), (5, .int x5), (6, .int x6), (7, .int x7), (8, .int x8), (9, .double _), (11, .int (x11 + 1))] ⟨rfl, rfl, rfl, rfl, rfl, rfl, rfl, rfl, rfl, rfl, rfl, trivial⟩ ?_
                            exact ih (q + 1) _ _ (by omega) (nM_s hx11) (by rw [hy, hz]; show _ = cond (tb_mf la q && fp_pos ((wo_S (I 4) d0 d1 F pa pb g h) mv la q)) (FP.dadd (ev_f ((wo_S (I 4) d0 d1 F pa pb g h) mv la) (ev_V (decide (mv = 1) == tb_t d0 d1 F w g h (la - 1)) (fun q => ev_t (wo_S (I 4) d0 d1 F pa pb g h) (tb_t d0 d1 F w g h) ((d0 + d1) * F) (((d0 + d1) * F) - la) q (1 - mv))) la q) (FP.dmul ((wo_S (I 4) d0 d1 F pa pb g h) mv la q) ((ev_V (decide (mv = 1) == tb_t d0 d1 F w g h (la - 1)) (fun q => ev_t (wo_S (I 4) d0 d1 F pa pb g h) (tb_t d0 d1 F w g h) ((d0 + d1) * F) (((d0 + d1) * F) - la) q (1 - mv))) q))) (ev_f ((wo_S (I 4) d0 d1 F pa pb g h) mv la) (ev_V (decide (mv = 1) == tb_t d0 d1 F w g h (la - 1)) (fun q => ev_t (wo_S (I 4) d0 d1 F pa pb g h) (tb_t d0 d1 F w g h) ((d0 + d1) * F) (((d0 + d1) * F) - la) q (1 - mv))) la q); rw [hmq, hp1]; rfl)
                          refine gz_iload hC dX8_worthOf_97 rfl ?_
                          refine gz_iconst hC (-1) dX8_worthOf_99 (by decide) ?_
                          refine gz_icmp_ne hC 126 dX8_worthOf_100 (by decide) (fun c100 => ?_) (fun c100 => ?_)
                          · have hq0 : ¬ q = 0 := fun z => c100 (by rw [hx11, z]; rfl)
                            have hVq : (ev_V (decide (mv = 1) == tb_t d0 d1 F w g h (la - 1)) (fun q => ev_t (wo_S (I 4) d0 d1 F pa pb g h) (tb_t d0 d1 F w g h) ((d0 + d1) * F) (((d0 + d1) * F) - la) q (1 - mv))) q = ev_t (wo_S (I 4) d0 d1 F pa pb g h) (tb_t d0 d1 F w g h) ((d0 + d1) * F) (((d0 + d1) * F) - la) q (1 - mv) := if_neg hq0
                            have hlq : la < q := by rcases tb_mf_lt hmq with ⟨a, _⟩ | a; exact absurd a hq0; exact a
                            refine gz_aload_n hC dX8_worthOf_126 rfl ?_
                            refine gz_getR (j := 17) hC dX8_worthOf_127 cf_X8 fl_X8_38 rfl rfl (by decide) ?_
                            refine gz_bipush hC (9) dX8_worthOf_130 (by decide) ?_
                            refine gz_iconst hC (1) dX8_worthOf_132 (by decide) ?_
                            refine gz_iload hC dX8_worthOf_133 rfl ?_
                            refine gz_isub hC dX8_worthOf_135 ?_
                            refine gz_imul hC dX8_worthOf_136 ?_
                            refine gz_iload hC dX8_worthOf_137 rfl ?_
                            refine gz_iadd hC dX8_worthOf_139 ?_
                            have hix : 9 * (1 - x6) + x11 = nI (9 * (1 - mv) + (q - 1)) := by rw [hx6, hx11, gz_n9, gz_n1, pk_sub (by omega), pk_sub (by omega), pk_mul, nI_add]
                            rw [hix]
                            refine gz_dald hC dX8_worthOf_140 rfl (vp_in_nI (by omega) (by decide)) ?_
                            first
                              | (rw [nI_clamp (show 9 * (1 - mv) + (q - 1) < 2 ^ 31 by omega)]
                                 refine gz_lw [(0, .ref (ad 0)), (1, .int x1), (2, .int x2), (3, .int x3), (4, .int x4), (5, .int x5), (6, .int x6), (7, .int x7), (8, .int x8), (9, .double y), (11, .int x11), (12, .double ((wo_S (I 4) d0 d1 F pa pb g h) mv la q))] ⟨rfl, rfl, rfl, rfl, rfl, rfl, rfl, rfl, rfl, rfl, rfl, rfl, trivial⟩ ?_
                                 exact rest141 _ (by rw [hVq]; exact hT q hlq (by omega) (1 - mv) (by omega)))
                              | (refine gz_lw [(0, .ref (ad 0)), (1, .int x1), (2, .int x2), (3, .int x3), (4, .int x4), (5, .int x5), (6, .int x6), (7, .int x7), (8, .int x8), (9, .double y), (11, .int x11), (12, .double ((wo_S (I 4) d0 d1 F pa pb g h) mv la q))] ⟨rfl, rfl, rfl, rfl, rfl, rfl, rfl, rfl, rfl, rfl, rfl, rfl, trivial⟩ ?_
                                 exact rest141 _ (by rw [hVq, hb]; rfl))
                          · have hq0 : q = 0 := by
                              have z := nM_to hx11
                              rw [c100] at z
                              exact ((nI_eq (a := 0) (b := q) (by omega) (by omega)).mp z).symm
                            have hl1 : 1 ≤ la := by rcases tb_mf_lt hmq with ⟨_, a⟩ | a <;> omega
                            have hVq : (ev_V (decide (mv = 1) == tb_t d0 d1 F w g h (la - 1)) (fun q => ev_t (wo_S (I 4) d0 d1 F pa pb g h) (tb_t d0 d1 F w g h) ((d0 + d1) * F) (((d0 + d1) * F) - la) q (1 - mv))) q = cond (decide (mv = 1) == tb_t d0 d1 F w g h (la - 1)) sh_one 0 := if_pos hq0
                            refine gz_aload_n hC dX8_worthOf_103 rfl ?_
                            refine gz_iconst hC (0) dX8_worthOf_104 (by decide) ?_
                            refine gz_iload hC dX8_worthOf_105 rfl ?_
                            refine gz_iload_n hC dX8_worthOf_107 rfl ?_
                            refine gz_iload hC dX8_worthOf_108 rfl ?_
                            refine gz_iload hC dX8_worthOf_110 rfl ?_
                            refine gz_callV5 hC dX8_worthOf_112 ml_X8_135 rfl rfl (by decide) (by decide) (Nat.le_of_ble_eq_true rfl) (ct_X8_wins hJ _ _ d0 d1 F w hO hX 0 mv g h (la - 1) (by decide) hmv _ _ _ _ _ rfl hx6 hx3 hx4 (by rw [hx5]; exact pk_sub (b := 1) hl1) hg hh (by omega)) (fun v112 M112 hp112 => ?_)
                            obtain ⟨rfl, rfl⟩ := hp112
                            rw [show decide (¬ 0 = mv) = decide (mv = 1) from decide_eq_decide.mpr (by omega)]
                            refine gz_if_eq hC 122 dX8_worthOf_115 (by decide) (fun c115 => ?_) (fun c115 => ?_)
                            · have hb := gz_b0 c115
                              refine gz_dconst0 hC dX8_worthOf_122 ?_
                              refine gz_goto hC 141 dX8_worthOf_123 (by decide) ?_
                              first
                                | (rw [nI_clamp (show 9 * (1 - mv) + (q - 1) < 2 ^ 31 by omega)]
                                   refine gz_lw [(0, .ref (ad 0)), (1, .int x1), (2, .int x2), (3, .int x3), (4, .int x4), (5, .int x5), (6, .int x6), (7, .int x7), (8, .int x8), (9, .double y), (11, .int x11), (12, .double ((wo_S (I 4) d0 d1 F pa pb g h) mv la q))] ⟨rfl, rfl, rfl, rfl, rfl, rfl, rfl, rfl, rfl, rfl, rfl, rfl, trivial⟩ ?_
                                   exact rest141 _ (by rw [hVq]; exact hT q hlq (by omega) (1 - mv) (by omega)))
                                | (refine gz_lw [(0, .ref (ad 0)), (1, .int x1), (2, .int x2), (3, .int x3), (4, .int x4), (5, .int x5), (6, .int x6), (7, .int x7), (8, .int x8), (9, .double y), (11, .int x11), (12, .double ((wo_S (I 4) d0 d1 F pa pb g h) mv la q))] ⟨rfl, rfl, rfl, rfl, rfl, rfl, rfl, rfl, rfl, rfl, rfl, rfl, trivial⟩ ?_
                                   exact rest141 _ (by rw [hVq, hb]; rfl))
                            · have hb := gz_b1 c115
                              refine gz_dconst1 hC dX8_worthOf_118 ?_
                              refine gz_goto hC 141 dX8_worthOf_119 (by decide) ?_
                              first
                                | (rw [nI_clamp (show 9 * (1 - mv) + (q - 1) < 2 ^ 31 by omega)]
                                   refine gz_lw [(0, .ref (ad 0)), (1, .int x1), (2, .int x2), (3, .int x3), (4, .int x4), (5, .int x5), (6, .int x6), (7, .int x7), (8, .int x8), (9, .double y), (11, .int x11), (12, .double ((wo_S (I 4) d0 d1 F pa pb g h) mv la q))] ⟨rfl, rfl, rfl, rfl, rfl, rfl, rfl, rfl, rfl, rfl, rfl, rfl, trivial⟩ ?_
                                   exact rest141 _ (by rw [hVq]; exact hT q hlq (by omega) (1 - mv) (by omega)))
                                | (refine gz_lw [(0, .ref (ad 0)), (1, .int x1), (2, .int x2), (3, .int x3), (4, .int x4), (5, .int x5), (6, .int x6), (7, .int x7), (8, .int x8), (9, .double y), (11, .int x11), (12, .double ((wo_S (I 4) d0 d1 F pa pb g h) mv la q))] ⟨rfl, rfl, rfl, rfl, rfl, rfl, rfl, rfl, rfl, rfl, rfl, rfl, trivial⟩ ?_
                                   exact rest141 _ (by rw [hVq, hb]; rfl))
                exact gz_lw [(0, .ref (ad 0)), (1, .int x1), (2, .int x2), (3, .int x3), (4, .int x4), (5, .int x5), (6, .int x6), (7, .int x7), (8, .int x8), (9, .double 0), (11, .int (-1))] ⟨rfl, rfl, rfl, rfl, rfl, rfl, rfl, rfl, rfl, rfl, rfl, trivial⟩ (lpm (((d0 + d1) * F) + 1) 0 0 (-1) (by omega) nM_0 rfl)
              refine gz_if_ne hC 32 dX8_worthOf_25 (by decide) (fun c25 => ?_) (fun c25 => ?_)
              · have e1 : mv = 1 := by rcases (show mv = 0 ∨ mv = 1 by omega) with q | q; exact absurd (by rw [hx6, q]; rfl) c25; exact q
                refine gz_iload_n hC dX8_worthOf_32 rfl ?_
                refine gz_istore hC dX8_worthOf_33 (by decide) ?_
                refine gz_iload hC dX8_worthOf_35 rfl ?_
                refine gz_if_ne hC 44 dX8_worthOf_37 (by decide) (fun c37 => ?_) (fun c37 => ?_)
                · refine gz_iload hC dX8_worthOf_44 rfl ?_
                  refine gz_istore hC dX8_worthOf_46 (by decide) ?_
                  refine gz_lw [(0, .ref (ad 0)), (1, .int x1), (2, .int x2), (3, .int x3), (4, .int x4), (5, .int x5), (6, .int x6), (7, .int x2), (8, .int x4)] ⟨rfl, rfl, rfl, rfl, rfl, rfl, rfl, rfl, rfl, trivial⟩ ?_
                  exact rest48 pb h x2 x4 hx2 hx4 hq (by omega) (fun q _ => by subst e1; rfl)
                · exact absurd c37 (by rw [hx6, e1]; decide)
              · have e0 : mv = 0 := by rcases (show mv = 0 ∨ mv = 1 by omega) with q | q; exact q; exact absurd c25 (by rw [hx6, q]; decide)
                refine gz_iload_n hC dX8_worthOf_28 rfl ?_
                refine gz_goto hC 33 dX8_worthOf_29 (by decide) ?_
                refine gz_istore hC dX8_worthOf_33 (by decide) ?_
                refine gz_iload hC dX8_worthOf_35 rfl ?_
                refine gz_if_ne hC 44 dX8_worthOf_37 (by decide) (fun c37 => ?_) (fun c37 => ?_)
                · exact absurd (by rw [hx6, e0]; rfl) c37
                · refine gz_iload_n hC dX8_worthOf_40 rfl ?_
                  refine gz_goto hC 46 dX8_worthOf_41 (by decide) ?_
                  refine gz_istore hC dX8_worthOf_46 (by decide) ?_
                  refine gz_lw [(0, .ref (ad 0)), (1, .int x1), (2, .int x2), (3, .int x3), (4, .int x4), (5, .int x5), (6, .int x6), (7, .int x1), (8, .int x3)] ⟨rfl, rfl, rfl, rfl, rfl, rfl, rfl, rfl, rfl, trivial⟩ ?_
                  exact rest48 pa g x1 x3 hx1 hx3 hp (by omega) (fun q _ => by subst e0; rfl)
        refine gz_lw [(0, .ref (ad 0)), (1, .int x1), (2, .int x2), (3, .int x3), (4, .int x4), (5, .int x5), (6, .int 0)] ⟨rfl, rfl, rfl, rfl, rfl, rfl, rfl, trivial⟩ ?_
        exact lpw 2 0 J 0 (by omega) rfl (fun q h1 h2 m2 hm2 => by rw [hT q h1 (by omega) h2 m2 hm2, show ((d0 + d1) * F) + 1 - (la + 1) = ((d0 + d1) * F) - la by omega]) (fun m2 h => absurd h (Nat.not_lt_zero m2))
  refine gz_lw [(0, .ref (ad 0)), (1, .int x1), (2, .int x2), (3, .int x3), (4, .int x4), (5, .int (nI ((d0 + d1) * F) - 1))] ⟨rfl, rfl, rfl, rfl, rfl, rfl, trivial⟩ ?_
  exact lpf (((d0 + d1) * F) + 1) (Nat.le_refl _) G _ (fun e => absurd e (by omega)) (fun la hl => by rw [show la = ((d0 + d1) * F) by omega]) (fun e => absurd e (by omega)) (fun q h1 _ h2 => absurd h1 (by omega))
  -- places not laid: [10, 11, 14, 15, 17, 19, 20, 23, 25, 28, 29, 32, 33, 35, 37, 40, 41, 44, 46, 48, 49, 51, 52, 54, 56, 57, 60, 63, 64, 66, 68, 71, 74, 75, 77, 79, 81, 83, 85, 88, 90, 92, 93, 94, 97, 99, 100, 103, 104, 105, 107, 108, 110, 112, 115, 118, 119, 122, 123, 126, 127, 130, 132, 133, 135, 136, 137, 139, 140, 141, 143, 145, 147, 149, 150, 151, 153, 156, 159, 160, 163, 165, 167, 168, 170, 171, 174, 176, 179, 181, 182, 184, 185, 188, 191, 194, 197, 198, 201, 203, 204]
set_option maxHeartbeats 4000000 in
set_option maxRecDepth 100000 in
theorem ct_X8_worth (hJ : gz_inj ad lm_lay) (I : Nat → Nat → Int32) (G : Nat → Nat → UInt64) (d0 d1 F : Nat) (w : Bool) (hO : cf_ok d0 d1 F) (hX : xm_tab d0 d1 F w I) (hw : wt_ok (I 4)) (a b : Int32) : gz_Ct l D ad cy lm_lay yX8_worth cX8_worth 7 (some .long) 6 [.ref (ad 0), .int a, .int b] (I, G) (fun v M1 => ∃ G1, v = some (.long (sp_wor (I 4) d0 d1 F w a b)) ∧ M1 = (I, G1)) := by
  have T := tb_facts hO.1
  have U := tb_facts hO.2.1
  have Bd := cf_bids hO
  refine gz_met (by decide +kernel) hJ (Nat.le_of_ble_eq_true rfl) ?_
  intro p e s m args below meth c hC
  refine gz_iload_n hC dX8_worth_0 rfl ?_
  refine gz_callS1 hC dX8_worth_1 ml_X8_117 (by decide) (by decide) (Nat.le_of_ble_eq_true rfl) (ct_X8_isPlan hJ _ _ _) (fun v1 M1 hp1 => ?_)
  obtain ⟨rfl, rfl⟩ := hp1
  refine gz_if_eq hC 14 dX8_worth_4 (by decide) (fun c4 => ?_) (fun c4 => ?_)
  · have q1 := gz_b0 c4
    refine gz_ldc2l hC dX8_worth_14 kc_X8_139 ?_
    exact gz_lret hC dX8_worth_17 ⟨G, by unfold sp_wor; first | (rw [q1, q2]; rfl) | (rw [q1]; rfl), rfl⟩
  · have q1 := gz_b1 c4
    obtain ⟨pa, hpa, ha⟩ := gz_in_t (n := 4) (by decide) (by decide) q1
    refine gz_iload_n hC dX8_worth_7 rfl ?_
    refine gz_callS1 hC dX8_worth_8 ml_X8_117 (by decide) (by decide) (Nat.le_of_ble_eq_true rfl) (ct_X8_isPlan hJ _ _ _) (fun v8 M8 hp8 => ?_)
    obtain ⟨rfl, rfl⟩ := hp8
    refine gz_if_ne hC 18 dX8_worth_11 (by decide) (fun c11 => ?_) (fun c11 => ?_)
    · have q2 := gz_b1 c11
      obtain ⟨pb, hpb, hb⟩ := gz_in_t (n := 4) (by decide) (by decide) q2
      refine gz_dconst0 hC dX8_worth_18 ?_
      refine gz_dstore_n hC dX8_worth_19 (by decide) ?_
      refine gz_iconst hC (0) dX8_worth_20 (by decide) ?_
      refine gz_istore hC dX8_worth_21 (by decide) ?_
      have lp1 : ∀ (n1 g : Nat) (J : Nat → Nat → UInt64) (y : UInt64) (x5 : Int32) (hi1 : g + n1 = tb_n d0 F) (hx5 : x5 = nI g) (hy : y = wo_g (I 4) d0 d1 F w pa pb g), gz_W p l e (gz_rm 6) s m args below meth c D ad cy lm_lay 7 (MQ below (gz_Q D ad cy lm_lay (fun v M1 => ∃ G1, v = some (.long (sp_wor (I 4) d0 d1 F w a b)) ∧ M1 = (I, G1))) args s 0 0 (gz_A ad lm_lay)) (I, J) 23 [(0, .ref (ad 0)), (1, .int a), (2, .int b), (3, .double y), (5, .int x5)] [] := by
        intro n1
        induction n1 with
        | zero =>
          intro g J y x5 hi1 hx5 hy
          refine gz_iload hC dX8_worth_23 rfl ?_
          refine gz_aload_n hC dX8_worth_25 rfl ?_
          refine gz_getR (j := 5) hC dX8_worth_26 cf_X8 fl_X8_23 rfl rfl (by decide) ?_
          refine gz_iconst hC (0) dX8_worth_29 (by decide) ?_
          refine gz_iald hC dX8_worth_30 rfl (show vp_in (nI 0) 2 from vp_in_nI (by decide) (by decide)) ?_
          rw [show (0 : Int32).toNatClampNeg = 0 from rfl, (xm_hP hX (show 0 < 2 by decide)).1]
          refine gz_icmp_ge hC 92 dX8_worth_31 (by decide) (fun c31 => ?_) (fun c31 => ?_)
          · refine gz_dload_n hC dX8_worth_92 rfl ?_
            refine gz_aload_n hC dX8_worth_93 rfl ?_
            refine gz_aload_n hC dX8_worth_94 rfl ?_
            refine gz_getI (j := 0) hC dX8_worth_95 cf_X8 fl_X8_7 rfl rfl (by decide) ?_
            refine gz_aload_n hC dX8_worth_98 rfl ?_
            refine gz_getI (j := 1) hC dX8_worth_99 cf_X8 fl_X8_13 rfl rfl (by decide) ?_
            refine gz_iadd hC dX8_worth_102 ?_
            refine gz_callV1 hC dX8_worth_103 ml_X8_114 rfl rfl (by decide) (by decide) (Nat.le_of_ble_eq_true rfl) (ct_X8_power hJ _ _ d0 d1 F w hX.1 (d0 + d1) (by omega) _ (by rw [hX.1.1, hX.1.2.1, nI_add])) (fun v103 M103 hp103 => ?_)
            obtain ⟨rfl, rfl⟩ := hp103
            have hall := wo_all_b w hw hO hpa hpb
            have hyy : FP.ddiv y (FP.i2d (nI (F ^ (d0 + d1)))) = wo_all (I 4) d0 d1 F w pa pb := by rw [hy, show g = tb_n d0 F by omega, Nat.pow_add]; rfl
            refine gz_i2d hC dX8_worth_106 ?_
            refine gz_ddiv hC dX8_worth_107 (by rw [hyy]; exact fp_b_n64 hall (by decide)) ?_
            rw [hyy]
            refine gz_callS1 hC dX8_worth_108 ml_X8_145 (by decide) (by decide) (Nat.le_of_ble_eq_true rfl) (ct_dbits hJ _ _ _ (fp_b_mono hall (by decide))) (fun v108 M108 hp108 => ?_)
            obtain ⟨rfl, rfl⟩ := hp108
            exact gz_lret hC dX8_worth_111 ⟨J, by unfold sp_wor; rw [q1, q2, ha, hb, nI_clamp (by omega), nI_clamp (by omega)]; rfl, rfl⟩
          · exact absurd (gz_ile (show nI (tb_n (tb_d d0 d1 0) F) = nI (tb_n d0 F) from rfl) hx5 (by omega) (by omega)) c31
        | succ n1 ih1 =>
          intro g J y x5 hi1 hx5 hy
          refine gz_iload hC dX8_worth_23 rfl ?_
          refine gz_aload_n hC dX8_worth_25 rfl ?_
          refine gz_getR (j := 5) hC dX8_worth_26 cf_X8 fl_X8_23 rfl rfl (by decide) ?_
          refine gz_iconst hC (0) dX8_worth_29 (by decide) ?_
          refine gz_iald hC dX8_worth_30 rfl (show vp_in (nI 0) 2 from vp_in_nI (by decide) (by decide)) ?_
          rw [show (0 : Int32).toNatClampNeg = 0 from rfl, (xm_hP hX (show 0 < 2 by decide)).1]
          refine gz_icmp_ge hC 92 dX8_worth_31 (by decide) (fun c31 => ?_) (fun c31 => ?_)
          · exact absurd c31 (gz_inle (show nI (tb_n (tb_d d0 d1 0) F) = nI (tb_n d0 F) from rfl) hx5 (by omega) (by omega))
          · refine gz_iconst hC (0) dX8_worth_34 (by decide) ?_
            refine gz_istore hC dX8_worth_35 (by decide) ?_
            have lp2 : ∀ (n2 h : Nat) (J : Nat → Nat → UInt64) (y : UInt64) (x6 : Int32) (hi2 : h + n2 = tb_n d1 F) (hx6 : x6 = nI h) (hy : y = wo_h (I 4) d0 d1 F w pa pb g h (wo_g (I 4) d0 d1 F w pa pb g)), gz_W p l e (gz_rm 6) s m args below meth c D ad cy lm_lay 7 (MQ below (gz_Q D ad cy lm_lay (fun v M1 => ∃ G1, v = some (.long (sp_wor (I 4) d0 d1 F w a b)) ∧ M1 = (I, G1))) args s 0 0 (gz_A ad lm_lay)) (I, J) 37 [(0, .ref (ad 0)), (1, .int a), (2, .int b), (3, .double y), (5, .int x5), (6, .int x6)] [] := by
              intro n2
              induction n2 with
              | zero =>
                intro h J y x6 hi2 hx6 hy
                refine gz_iload hC dX8_worth_37 rfl ?_
                refine gz_aload_n hC dX8_worth_39 rfl ?_
                refine gz_getR (j := 5) hC dX8_worth_40 cf_X8 fl_X8_23 rfl rfl (by decide) ?_
                refine gz_iconst hC (1) dX8_worth_43 (by decide) ?_
                refine gz_iald hC dX8_worth_44 rfl (show vp_in (nI 1) 2 from vp_in_nI (by decide) (by decide)) ?_
                rw [show (1 : Int32).toNatClampNeg = 1 from rfl, (xm_hP hX (show 1 < 2 by decide)).1]
                refine gz_icmp_ge hC 86 dX8_worth_45 (by decide) (fun c45 => ?_) (fun c45 => ?_)
                · refine gz_iinc hC (1) dX8_worth_86 rfl (by decide) (by decide) ?_
                  refine gz_goto hC 23 dX8_worth_89 (by decide) ?_
                  refine gz_lw [(0, .ref (ad 0)), (1, .int a), (2, .int b), (3, .double y), (5, .int (x5 + 1))] ⟨rfl, rfl, rfl, rfl, rfl, trivial⟩ ?_
                  exact ih1 (g + 1) J _ _ (by omega) (gz_i1 hx5) (by rw [hy, show h = tb_n d1 F by omega]; rfl)
                · exact absurd (gz_ile (show nI (tb_n (tb_d d0 d1 1) F) = nI (tb_n d1 F) from rfl) hx6 (by omega) (by omega)) c45
              | succ n2 ih2 =>
                intro h J y x6 hi2 hx6 hy
                refine gz_iload hC dX8_worth_37 rfl ?_
                refine gz_aload_n hC dX8_worth_39 rfl ?_
                refine gz_getR (j := 5) hC dX8_worth_40 cf_X8 fl_X8_23 rfl rfl (by decide) ?_
                refine gz_iconst hC (1) dX8_worth_43 (by decide) ?_
                refine gz_iald hC dX8_worth_44 rfl (show vp_in (nI 1) 2 from vp_in_nI (by decide) (by decide)) ?_
                rw [show (1 : Int32).toNatClampNeg = 1 from rfl, (xm_hP hX (show 1 < 2 by decide)).1]
                refine gz_icmp_ge hC 86 dX8_worth_45 (by decide) (fun c45 => ?_) (fun c45 => ?_)
                · exact absurd c45 (gz_inle (show nI (tb_n (tb_d d0 d1 1) F) = nI (tb_n d1 F) from rfl) hx6 (by omega) (by omega))
                · refine gz_dload_n hC dX8_worth_48 rfl ?_
                  refine gz_aload_n hC dX8_worth_49 rfl ?_
                  refine gz_getR (j := 6) hC dX8_worth_50 cf_X8 fl_X8_26 rfl rfl (by decide) ?_
                  refine gz_iload hC dX8_worth_53 rfl ?_
                  refine gz_iald hC dX8_worth_55 rfl (by rw [hx5]; exact vp_in_nI (by omega) (by decide)) ?_
                  refine gz_aload_n hC dX8_worth_56 rfl ?_
                  refine gz_getR (j := 6) hC dX8_worth_57 cf_X8 fl_X8_26 rfl rfl (by decide) ?_
                  refine gz_iconst hC (4) dX8_worth_60 (by decide) ?_
                  refine gz_iload hC dX8_worth_61 rfl ?_
                  refine gz_iadd hC dX8_worth_63 ?_
                  refine gz_iald hC dX8_worth_64 rfl (by rw [hx6, gz_n4, nI_add]; exact vp_in_nI (by omega) (by decide)) ?_
                  rw [show x5.toNatClampNeg = 4 * 0 + g by rw [hx5, nI_clamp (by omega)]; omega, show (4 + x6).toNatClampNeg = 4 * 1 + h by rw [hx6, gz_n4, nI_add, nI_clamp (by omega)], (xm_hP hX (show 0 < 2 by decide)).2.2 g (show g < tb_n d0 F by omega), (xm_hP hX (show 1 < 2 by decide)).2.2 h (show h < tb_n d1 F by omega)]
                  refine gz_imul hC dX8_worth_65 ?_
                  rw [pk_mul, show tb_w (tb_d d0 d1 0) F g * tb_w (tb_d d0 d1 1) F h = tb_w d0 F g * tb_w d1 F h from rfl]
                  refine gz_i2d hC dX8_worth_66 ?_
                  refine gz_aload_n hC dX8_worth_67 rfl ?_
                  refine gz_iload_n hC dX8_worth_68 rfl ?_
                  refine gz_iload_n hC dX8_worth_69 rfl ?_
                  refine gz_iload hC dX8_worth_70 rfl ?_
                  refine gz_iload hC dX8_worth_72 rfl ?_
                  refine gz_callV4 hC dX8_worth_74 ml_X8_141 rfl rfl (by decide) (by decide) (Nat.le_of_ble_eq_true rfl) (ct_X8_worthOf hJ _ _ d0 d1 F w hO hX pa pb g h _ _ _ _ ha hb hx5 hx6 hpa hpb (by omega) (by omega) hw) (fun v74 M74 hp74 => ?_)
                  obtain ⟨J2, rfl, rfl⟩ := hp74
                  have ht := wo_term_b w hw hO hpa hpb (show g < 4 by omega) (show h < 4 by omega)
                  have hac := wo_h_b w hw hO hpa hpb (show g < 4 by omega) (by omega) (wo_g_b w hw hO hpa hpb g (by omega)) h (by omega) (by omega)
                  rw [← hy] at hac
                  refine gz_dmul hC dX8_worth_77 (fp_b_n64 ht (by decide)) ?_
                  refine gz_dadd hC dX8_worth_78 (fp_b_n64 (fp_b_add hac (fp_b_mono ht (by omega)) (by omega)) (by omega)) ?_
                  refine gz_dstore_n hC dX8_worth_79 (by decide) ?_
                  refine gz_iinc hC (1) dX8_worth_80 rfl (by decide) (by decide) ?_
                  refine gz_goto hC 37 dX8_worth_83 (by decide) ?_
                  refine gz_lw [(0, .ref (ad 0)), (1, .int a), (2, .int b), (3, .double _), (5, .int x5), (6, .int (x6 + 1))] ⟨rfl, rfl, rfl, rfl, rfl, rfl, trivial⟩ ?_
                  exact ih2 (h + 1) J2 _ _ (by omega) (gz_i1 hx6) (by rw [hy]; rfl)
            exact gz_lw [(0, .ref (ad 0)), (1, .int a), (2, .int b), (3, .double y), (5, .int x5), (6, .int 0)] ⟨rfl, rfl, rfl, rfl, rfl, rfl, trivial⟩ (lp2 (tb_n d1 F) 0 J y 0 (by omega) rfl hy)
      exact gz_lw [(0, .ref (ad 0)), (1, .int a), (2, .int b), (3, .double 0), (5, .int 0)] ⟨rfl, rfl, rfl, rfl, rfl, trivial⟩ (lp1 (tb_n d0 F) 0 G 0 0 (by omega) rfl rfl)
    · have q2 := gz_b0 c11
      refine gz_ldc2l hC dX8_worth_14 kc_X8_139 ?_
      exact gz_lret hC dX8_worth_17 ⟨G, by unfold sp_wor; first | (rw [q1, q2]; rfl) | (rw [q1]; rfl), rfl⟩
  -- places not laid: [25, 26, 29, 30, 31, 34, 35, 37, 39, 40, 43, 44, 45, 48, 49, 50, 53, 55, 56, 57, 60, 61, 63, 64, 65, 66, 67, 68, 69, 70, 72, 74, 77, 78, 79, 80, 83, 86, 89, 92, 93, 94, 95, 98, 99, 102, 103, 106, 107, 108, 111]
end CT
