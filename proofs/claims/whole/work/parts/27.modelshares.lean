/-! the model: weights, shares; the bits of a double -/
def yRaw : MethodName := ⟨"java/lang/Double", "doubleToRawLongBits", "(D)J"⟩
theorem wr_link : Cond.methodLink RJxe99ae 134 yRaw ∈ gz_XS := gz_mS 844 (by decide +kernel) rfl
theorem wr_stat : Cond.static yRaw ∈ gz_XS := gz_mS 845 (by decide +kernel) rfl
theorem wr_nat : Cond.native yRaw ∈ gz_XS := gz_mS 846 (by decide +kernel) rfl
theorem gz_bits (b : UInt64) : b.toInt64 = lN b.toNat := by
  apply Int64.toBitVec_inj.mp
  show b.toBitVec = BitVec.ofNat 64 b.toBitVec.toNat
  apply BitVec.eq_of_toNat_eq
  rw [BitVec.toNat_ofNat]
  exact (Nat.mod_eq_of_lt b.toBitVec.isLt).symm
theorem sp_bon_N {d0 d1 F q : Nat} (hO : cf_ok d0 d1 F) (hq : q ≤ (d0 + d1) * F) : sp_bon d0 d1 F (nI q - 1) = true := by
  have Bd := cf_bids hO
  unfold sp_bon
  match q, hq with
  | 0, _ => rw [show decide (nI 0 - 1 = -1) = true from by decide]; rfl
  | k + 1, hk =>
    rw [nI_pred]
    have h1 : gz_in (nI k) 0 (nI ((d0 + d1) * F - 1 + 1) - 1) = true := by
      unfold gz_in
      rw [nI_pred, decide_eq_false (nI_pos (by omega)), decide_eq_false (nI_nlt (show k ≤ (d0 + d1) * F - 1 by omega) (by omega))]
      rfl
    unfold sp_bid
    rw [show (d0 + d1) * F = (d0 + d1) * F - 1 + 1 by omega, h1, Bool.or_true]
section CT
variable {l : Launch} {D : va_G} {ad : Nat → Nat} {cy : Nat → ClassId}
theorem gz_raw {p : Program} {e : Env} {s : State} {m : MethodId} {args : Array Value} {below : List Frame} {meth : Method} {c : Code} {lay : List gz_C} {cc : ByteArray} {nL d2 pc : Nat} {own : String} {ret : Option FieldType} {Q : State → Prop} {I : Nat → Nat → Int32} {G : Nat → Nat → UInt64} {lv : List (Nat × Value)} {st : List Value} {b : UInt64} (hC : gz_X p s m args meth c own cc ret nL D ad cy lay) (ho : own = RJxe99ae) (hd : decode cc pc = .ok (.invokestatic 134, 3)) (hf : 1 ≤ d2) (hrm : (st.map fun v => v.category).sum ≤ 8) (kk : gz_W p l e (gz_rm d2) s m args below meth c D ad cy lay nL Q (I, G) (pc + 3) lv (.long b.toInt64 :: st)) : gz_W p l e (gz_rm d2) s m args below meth c D ad cy lay nL Q (I, G) pc lv (.double b :: st) := fun H locs ls hP hS hL => vn_d2l hC.1 hC.2.1 (hC.2.2.2.1.trans hL.1.symm) (own := own) (index := 134) hC.2.2.2.2.1 (by rw [ho]; exact hC.2.2.2.2.2.1 _ wr_link) (hC.2.2.2.2.2.1 _ wr_nat) (hC.2.2.2.2.2.1 _ wr_stat) (hC.2.2.2.2.2.1 _ wn_Jxe99ae) hf (by show _ + 15 ≤ 40 * d2; omega) hd (kk H locs ls hP hS hL)
set_option maxHeartbeats 4000000 in
set_option maxRecDepth 100000 in
theorem ct_Jxe99ae_isNaN_b9ae7 (hJ : gz_inj ad lm_lay) (I : Nat → Nat → Int32) (G : Nat → Nat → UInt64) (x : UInt64) (hx : fp_b 1700 x) : gz_Ct l D ad cy lm_lay yJxe99ae_isNaN_b9ae7 cJxe99ae_isNaN_b9ae7 2 (some .boolean) 0 [.double x] (I, G) (fun v M1 => v = some (.int (0)) ∧ M1 = (I, G)) := by
  refine gz_met (by decide +kernel) hJ (Nat.le_of_ble_eq_true rfl) ?_
  intro p e s m args below meth c hC
  refine gz_dload_n hC dJxe99ae_isNaN_b9ae7_0 rfl ?_
  refine gz_dload_n hC dJxe99ae_isNaN_b9ae7_1 rfl ?_
  refine gz_dcmp hC dJxe99ae_isNaN_b9ae7_2 ?_
  refine gz_if_eq hC 10 dJxe99ae_isNaN_b9ae7_3 (by decide) (fun c3 => ?_) (fun c3 => ?_)
  · refine gz_iconst hC (0) dJxe99ae_isNaN_b9ae7_10 (by decide) ?_
    exact gz_zret rfl hC dJxe99ae_isNaN_b9ae7_11 ⟨rfl, rfl⟩
  · exact absurd (by rw [fp_cmp hx hx (by decide) (by decide), show compare (x.toNat : Int) (x.toNat : Int) = .eq from Std.ReflCmp.compare_self]; rfl) c3
  -- places not laid: [6, 7]
set_option maxHeartbeats 4000000 in
set_option maxRecDepth 100000 in
theorem ct_dbits (hJ : gz_inj ad lm_lay) (I : Nat → Nat → Int32) (G : Nat → Nat → UInt64) (x : UInt64) (hx : fp_b 1700 x) : gz_Ct l D ad cy lm_lay yJxe99ae_doubleToLongBits_ccdee cJxe99ae_doubleToLongBits_ccdee 2 (some .long) 1 [.double x] (I, G) (fun v M1 => v = some (.long (lN x.toNat)) ∧ M1 = (I, G)) := by
  refine gz_met (by decide +kernel) hJ (Nat.le_of_ble_eq_true rfl) ?_
  intro p e s m args below meth c hC
  refine gz_dload_n hC dJxe99ae_doubleToLongBits_ccdee_0 rfl ?_
  refine gz_callS1 hC dJxe99ae_doubleToLongBits_ccdee_1 ml_Jxe99ae_122 (by decide) (by decide) (Nat.le_of_ble_eq_true rfl) (ct_Jxe99ae_isNaN_b9ae7 hJ _ _ _ hx) (fun v1 M1 hp1 => ?_)
  obtain ⟨rfl, rfl⟩ := hp1
  refine gz_if_ne hC 12 dJxe99ae_doubleToLongBits_ccdee_4 (by decide) (fun c4 => ?_) (fun c4 => ?_)
  · exact absurd rfl c4
  · refine gz_dload_n hC dJxe99ae_doubleToLongBits_ccdee_7 rfl ?_
    refine gz_raw hC rfl dJxe99ae_doubleToLongBits_ccdee_8 (by decide) (Nat.le_of_ble_eq_true rfl) ?_
    exact gz_lret hC dJxe99ae_doubleToLongBits_ccdee_11 ⟨by rw [gz_bits], rfl⟩
set_option maxHeartbeats 4000000 in
set_option maxRecDepth 100000 in
theorem ct_X8_mayMove (hJ : gz_inj ad lm_lay) (I : Nat → Nat → Int32) (G : Nat → Nat → UInt64) (d0 d1 F : Nat) (w : Bool) (hX : xm_c d0 d1 F w I) (a b : Int32) : gz_Ct l D ad cy lm_lay yX8_mayMove cX8_mayMove 3 (some .boolean) 2 [.ref (ad 0), .int a, .int b] (I, G) (fun v M1 => v = some (.int (gz_b (sp_bon d0 d1 F b && gz_mf a b))) ∧ M1 = (I, G)) := by
  refine gz_met (by decide +kernel) hJ (Nat.le_of_ble_eq_true rfl) ?_
  intro p e s m args below meth c hC
  refine gz_iload_n hC dX8_mayMove_0 rfl ?_
  refine gz_iconst hC (-1) dX8_mayMove_1 (by decide) ?_
  refine gz_icmp_ne hC 18 dX8_mayMove_2 (by decide) (fun c2 => ?_) (fun c2 => ?_)
  · refine gz_aload_n hC dX8_mayMove_18 rfl ?_
    refine gz_iload_n hC dX8_mayMove_19 rfl ?_
    refine gz_callV1 hC dX8_mayMove_20 ml_X8_105 rfl rfl (by decide) (by decide) (Nat.le_of_ble_eq_true rfl) (ct_X8_isBid hJ _ _ d0 d1 F w hX _) (fun v20 M20 hp20 => ?_)
    obtain ⟨rfl, rfl⟩ := hp20
    refine gz_if_eq hC 35 dX8_mayMove_23 (by decide) (fun c23 => ?_) (fun c23 => ?_)
    · have q1 := gz_b0 c23
      refine gz_iconst hC (0) dX8_mayMove_35 (by decide) ?_
      exact gz_zret rfl hC dX8_mayMove_36 ⟨gz_v (by unfold sp_bon gz_mf; first | (rw [decide_eq_true c2, decide_eq_false c7]; rfl) | (rw [decide_eq_true c2, decide_eq_true c7]; rfl) | (rw [decide_eq_false c2, q1, decide_eq_true (gz_le2n c28)]; rfl) | (rw [decide_eq_false c2, q1, decide_eq_false (gz_ltf c28)]; rfl) | (rw [decide_eq_false c2, q1]; rfl)), rfl⟩
    · have q1 := gz_b1 c23
      refine gz_iload_n hC dX8_mayMove_26 rfl ?_
      refine gz_iload_n hC dX8_mayMove_27 rfl ?_
      refine gz_icmp_le hC 35 dX8_mayMove_28 (by decide) (fun c28 => ?_) (fun c28 => ?_)
      · refine gz_iconst hC (0) dX8_mayMove_35 (by decide) ?_
        exact gz_zret rfl hC dX8_mayMove_36 ⟨gz_v (by unfold sp_bon gz_mf; first | (rw [decide_eq_true c2, decide_eq_false c7]; rfl) | (rw [decide_eq_true c2, decide_eq_true c7]; rfl) | (rw [decide_eq_false c2, q1, decide_eq_true (gz_le2n c28)]; rfl) | (rw [decide_eq_false c2, q1, decide_eq_false (gz_ltf c28)]; rfl) | (rw [decide_eq_false c2, q1]; rfl)), rfl⟩
      · refine gz_iconst hC (1) dX8_mayMove_31 (by decide) ?_
        refine gz_goto hC 36 dX8_mayMove_32 (by decide) ?_
        exact gz_zret rfl hC dX8_mayMove_36 ⟨gz_v (by unfold sp_bon gz_mf; first | (rw [decide_eq_true c2, decide_eq_false c7]; rfl) | (rw [decide_eq_true c2, decide_eq_true c7]; rfl) | (rw [decide_eq_false c2, q1, decide_eq_true (gz_le2n c28)]; rfl) | (rw [decide_eq_false c2, q1, decide_eq_false (gz_ltf c28)]; rfl) | (rw [decide_eq_false c2, q1]; rfl)), rfl⟩
  · refine gz_iload_n hC dX8_mayMove_5 rfl ?_
    refine gz_iconst hC (-1) dX8_mayMove_6 (by decide) ?_
    refine gz_icmp_eq hC 14 dX8_mayMove_7 (by decide) (fun c7 => ?_) (fun c7 => ?_)
    · refine gz_iconst hC (0) dX8_mayMove_14 (by decide) ?_
      refine gz_goto hC 36 dX8_mayMove_15 (by decide) ?_
      exact gz_zret rfl hC dX8_mayMove_36 ⟨gz_v (by unfold sp_bon gz_mf; first | (rw [decide_eq_true c2, decide_eq_false c7]; rfl) | (rw [decide_eq_true c2, decide_eq_true c7]; rfl) | (rw [decide_eq_false c2, q1, decide_eq_true (gz_le2n c28)]; rfl) | (rw [decide_eq_false c2, q1, decide_eq_false (gz_ltf c28)]; rfl) | (rw [decide_eq_false c2, q1]; rfl)), rfl⟩
    · refine gz_iconst hC (1) dX8_mayMove_10 (by decide) ?_
      refine gz_goto hC 36 dX8_mayMove_11 (by decide) ?_
      exact gz_zret rfl hC dX8_mayMove_36 ⟨gz_v (by unfold sp_bon gz_mf; first | (rw [decide_eq_true c2, decide_eq_false c7]; rfl) | (rw [decide_eq_true c2, decide_eq_true c7]; rfl) | (rw [decide_eq_false c2, q1, decide_eq_true (gz_le2n c28)]; rfl) | (rw [decide_eq_false c2, q1, decide_eq_false (gz_ltf c28)]; rfl) | (rw [decide_eq_false c2, q1]; rfl)), rfl⟩
set_option maxHeartbeats 4000000 in
set_option maxRecDepth 100000 in
theorem ct_X8_at (hJ : gz_inj ad lm_lay) (I : Nat → Nat → Int32) (G : Nat → Nat → UInt64) (d0 d1 F : Nat) (w : Bool) (hO : cf_ok d0 d1 F) (hX : xm_tab d0 d1 F w I) (plan pl hh la q : Nat) (hp : pl < 2) (x1 x2 x3 x4 x5 : Int32) (hx1 : x1 = nI plan) (hx2 : x2 = nI pl) (hx3 : x3 = nI hh) (hx4 : x4 = nI la - 1) (hx5 : x5 = nI q - 1) : gz_Ct l D ad cy lm_lay yX8_at cX8_at 6 (some .int) 1 [.ref (ad 0), .int x1, .int x2, .int x3, .int x4, .int x5] (I, G) (fun v M1 => v = some (.int (nI (tb_ix plan (tb_d d0 d1 pl) hh la q))) ∧ M1 = (I, G)) := by
  have T := tb_facts (cf_okP hO hp)
  refine gz_met (by decide +kernel) hJ (Nat.le_of_ble_eq_true rfl) ?_
  intro p e s m args below meth c hC
  refine gz_iload_n hC dX8_at_0 rfl ?_
  refine gz_iconst hC (3) dX8_at_1 (by decide) ?_
  refine gz_imul hC dX8_at_2 ?_
  refine gz_aload_n hC dX8_at_3 rfl ?_
  refine gz_iload_n hC dX8_at_4 rfl ?_
  refine gz_callV1 hC dX8_at_5 ml_X8_67 rfl rfl (by decide) (by decide) (Nat.le_of_ble_eq_true rfl) (ct_X8_dice hJ _ _ d0 d1 F w hX.1 pl hp _ hx2) (fun v5 M5 hp5 => ?_)
  obtain ⟨rfl, rfl⟩ := hp5
  refine gz_iadd hC dX8_at_8 ?_
  refine gz_iconst hC (1) dX8_at_9 (by decide) ?_
  refine gz_isub hC dX8_at_10 ?_
  refine gz_iconst hC (4) dX8_at_11 (by decide) ?_
  refine gz_imul hC dX8_at_12 ?_
  refine gz_iload_n hC dX8_at_13 rfl ?_
  refine gz_iadd hC dX8_at_14 ?_
  refine gz_bipush hC (9) dX8_at_15 (by decide) ?_
  refine gz_imul hC dX8_at_17 ?_
  refine gz_iload hC dX8_at_18 rfl ?_
  refine gz_iadd hC dX8_at_20 ?_
  refine gz_iconst hC (1) dX8_at_21 (by decide) ?_
  refine gz_iadd hC dX8_at_22 ?_
  refine gz_bipush hC (9) dX8_at_23 (by decide) ?_
  refine gz_imul hC dX8_at_25 ?_
  refine gz_iload hC dX8_at_26 rfl ?_
  refine gz_iadd hC dX8_at_28 ?_
  refine gz_iconst hC (1) dX8_at_29 (by decide) ?_
  refine gz_iadd hC dX8_at_30 ?_
  exact gz_iret hC dX8_at_31 ⟨gz_v (by rw [Int32.add_assoc _ x4 1, nM_to hx4, Int32.add_assoc _ x5 1, nM_to hx5, hx1, hx3, gz_n3, gz_n1, gz_n4, gz_n9, pk_mul, nI_add, pk_sub (by omega), pk_mul, nI_add, pk_mul, nI_add, pk_mul, nI_add]; rfl), rfl⟩
set_option maxHeartbeats 4000000 in
set_option maxRecDepth 100000 in
theorem ct_X8_weigh (hJ : gz_inj ad lm_lay) (I : Nat → Nat → Int32) (G : Nat → Nat → UInt64) (d0 d1 F : Nat) (w : Bool) (hO : cf_ok d0 d1 F) (hX : xm_tab d0 d1 F w I) (a1 a2 a3 a4 a5 a6 : Int32) : gz_Ct l D ad cy lm_lay yX8_weigh cX8_weigh 9 (some .int) 3 [.ref (ad 0), .int a1, .int a2, .int a3, .int a4, .int a5, .int a6] (I, G) (fun v M1 => (sp_wok d0 d1 F a1 a2 a3 a4 a5 a6 = false ∧ v = some (.int (-2)) ∧ M1 = (I, G)) ∨ (sp_wok d0 d1 F a1 a2 a3 a4 a5 a6 = true ∧ sp_wix d0 d1 a1 a2 a3 a4 a5 < 3888 ∧ v = some (.int (I 4 (sp_wix d0 d1 a1 a2 a3 a4 a5))) ∧ M1 = (gz_up I 4 (sp_wix d0 d1 a1 a2 a3 a4 a5) a6, G))) := by
  refine gz_met (by decide +kernel) hJ (Nat.le_of_ble_eq_true rfl) ?_
  intro p e s m args below meth c hC
  refine gz_iload_n hC dX8_weigh_0 rfl ?_
  refine gz_callS1 hC dX8_weigh_1 ml_X8_117 (by decide) (by decide) (Nat.le_of_ble_eq_true rfl) (ct_X8_isPlan hJ _ _ _) (fun v1 M1 hp1 => ?_)
  obtain ⟨rfl, rfl⟩ := hp1
  refine gz_if_eq hC 53 dX8_weigh_4 (by decide) (fun c4 => ?_) (fun c4 => ?_)
  · have q1 := gz_b0 c4
    refine gz_bipush hC (-2) dX8_weigh_53 (by decide) ?_
    exact gz_iret hC dX8_weigh_55 (Or.inl ⟨by unfold sp_wok; first | (rw [q1, q2, q3, ← Bool.and_assoc (sp_bon d0 d1 F a5), q4, q6]; rfl) | (rw [q1, q2, q3, ← Bool.and_assoc (sp_bon d0 d1 F a5), q4]; rfl) | (rw [q1, q2, q3]; rfl) | (rw [q1, q2]; rfl) | (rw [q1]; rfl), rfl, rfl⟩)
  · have q1 := gz_b1 c4
    obtain ⟨plan, hplan, ha1⟩ := gz_in_t (n := 4) (by decide) (by decide) q1
    refine gz_aload_n hC dX8_weigh_7 rfl ?_
    refine gz_iload_n hC dX8_weigh_8 rfl ?_
    refine gz_iload_n hC dX8_weigh_9 rfl ?_
    refine gz_callV2 hC dX8_weigh_10 ml_X8_97 rfl rfl (by decide) (by decide) (Nat.le_of_ble_eq_true rfl) (ct_X8_isHand hJ _ _ d0 d1 F w hO hX _ _) (fun v10 M10 hp10 => ?_)
    obtain ⟨rfl, rfl⟩ := hp10
    refine gz_if_eq hC 53 dX8_weigh_13 (by decide) (fun c13 => ?_) (fun c13 => ?_)
    · have q2 := gz_b0 c13
      refine gz_bipush hC (-2) dX8_weigh_53 (by decide) ?_
      exact gz_iret hC dX8_weigh_55 (Or.inl ⟨by unfold sp_wok; first | (rw [q1, q2, q3, ← Bool.and_assoc (sp_bon d0 d1 F a5), q4, q6]; rfl) | (rw [q1, q2, q3, ← Bool.and_assoc (sp_bon d0 d1 F a5), q4]; rfl) | (rw [q1, q2, q3]; rfl) | (rw [q1, q2]; rfl) | (rw [q1]; rfl), rfl, rfl⟩)
    · have q2 := gz_b1 c13
      obtain ⟨pl, hh, hpl2, hk2, hp0, hh0⟩ := sp_hd_t hO q2
      have T2 := tb_facts (cf_okP hO hpl2)
      have Bd := (cf_bids hO).2
      have rest : sp_bon d0 d1 F a4 = true → gz_W p l e (gz_rm 3) s m args below meth c D ad cy lm_lay 9 (MQ below (gz_Q D ad cy lm_lay (fun v M1 => (sp_wok d0 d1 F a1 a2 a3 a4 a5 a6 = false ∧ v = some (.int (-2)) ∧ M1 = (I, G)) ∨ (sp_wok d0 d1 F a1 a2 a3 a4 a5 a6 = true ∧ sp_wix d0 d1 a1 a2 a3 a4 a5 < 3888 ∧ v = some (.int (I 4 (sp_wix d0 d1 a1 a2 a3 a4 a5))) ∧ M1 = (gz_up I 4 (sp_wix d0 d1 a1 a2 a3 a4 a5) a6, G)))) args s 0 0 (gz_A ad lm_lay)) (I, G) 31 [(0, .ref (ad 0)), (1, .int a1), (2, .int a2), (3, .int a3), (4, .int a4), (5, .int a5), (6, .int a6)] [] := by
        intro q3
        obtain ⟨lb, hl, ha4⟩ := sp_bon_t hO q3
        refine gz_aload_n hC dX8_weigh_31 rfl ?_
        refine gz_iload hC dX8_weigh_32 rfl ?_
        refine gz_iload hC dX8_weigh_34 rfl ?_
        refine gz_callV2 hC dX8_weigh_36 ml_X8_120 rfl rfl (by decide) (by decide) (Nat.le_of_ble_eq_true rfl) (ct_X8_mayMove hJ _ _ d0 d1 F w hX.1 _ _) (fun v36 M36 hp36 => ?_)
        obtain ⟨rfl, rfl⟩ := hp36
        refine gz_if_eq hC 53 dX8_weigh_39 (by decide) (fun c39 => ?_) (fun c39 => ?_)
        · have q4 := gz_b0 c39
          refine gz_bipush hC (-2) dX8_weigh_53 (by decide) ?_
          exact gz_iret hC dX8_weigh_55 (Or.inl ⟨by unfold sp_wok; first | (rw [q1, q2, q3, ← Bool.and_assoc (sp_bon d0 d1 F a5), q4, q6]; rfl) | (rw [q1, q2, q3, ← Bool.and_assoc (sp_bon d0 d1 F a5), q4]; rfl) | (rw [q1, q2, q3]; rfl) | (rw [q1, q2]; rfl) | (rw [q1]; rfl), rfl, rfl⟩)
        · have q4 := gz_b1 c39
          have q5 : sp_bon d0 d1 F a5 = true := by rw [Bool.and_eq_true] at q4; exact q4.1
          obtain ⟨m0, hm, ha5⟩ := sp_bon_t hO q5
          refine gz_iload hC dX8_weigh_42 rfl ?_
          refine gz_iconst hC (0) dX8_weigh_44 (by decide) ?_
          refine gz_bipush hC (20) dX8_weigh_45 (by decide) ?_
          refine gz_callS3 hC dX8_weigh_47 ml_X8_82 (by decide) (by decide) (Nat.le_of_ble_eq_true rfl) (ct_X8_in hJ _ _ _ _ _) (fun v47 M47 hp47 => ?_)
          obtain ⟨rfl, rfl⟩ := hp47
          refine gz_if_ne hC 56 dX8_weigh_50 (by decide) (fun c50 => ?_) (fun c50 => ?_)
          · have q6 := gz_b1 c50
            refine gz_aload_n hC dX8_weigh_56 rfl ?_
            refine gz_iload_n hC dX8_weigh_57 rfl ?_
            refine gz_iload_n hC dX8_weigh_58 rfl ?_
            refine gz_iload_n hC dX8_weigh_59 rfl ?_
            refine gz_iload hC dX8_weigh_60 rfl ?_
            refine gz_iload hC dX8_weigh_62 rfl ?_
            have e9 : sp_wix d0 d1 a1 a2 a3 a4 a5 = tb_ix plan (tb_d d0 d1 pl) hh lb m0 := by unfold sp_wix; rw [nM_to ha4, nM_to ha5, ha1, hp0, hh0, nI_clamp (by omega), nI_clamp (by omega), nI_clamp (by omega), nI_clamp (by omega), nI_clamp (by omega)]
            have e8 := tb_ix_lt hplan T2.2.2.2.2.2.2.2.1 T2.2.2.2.2.2.1 (show hh < 4 by omega) (show lb < 9 by omega) (show m0 < 9 by omega)
            refine gz_callV5 hC dX8_weigh_64 ml_X8_123 rfl rfl (by decide) (by decide) (Nat.le_of_ble_eq_true rfl) (ct_X8_at hJ _ _ d0 d1 F w hO hX plan pl hh lb m0 hpl2 _ _ _ _ _ ha1 hp0 hh0 ha4 ha5) (fun v64 M64 hp64 => ?_)
            obtain ⟨rfl, rfl⟩ := hp64
            refine gz_istore hC dX8_weigh_67 (by decide) ?_
            refine gz_aload_n hC dX8_weigh_69 rfl ?_
            refine gz_getR (j := 7) hC dX8_weigh_70 cf_X8 fl_X8_29 rfl rfl (by decide) ?_
            refine gz_iload hC dX8_weigh_73 rfl ?_
            refine gz_iald hC dX8_weigh_75 rfl (vp_in_nI e8 (by decide)) ?_
            refine gz_istore hC dX8_weigh_76 (by decide) ?_
            refine gz_aload_n hC dX8_weigh_78 rfl ?_
            refine gz_getR (j := 7) hC dX8_weigh_79 cf_X8 fl_X8_29 rfl rfl (by decide) ?_
            refine gz_iload hC dX8_weigh_82 rfl ?_
            refine gz_iload hC dX8_weigh_84 rfl ?_
            refine gz_iast hC dX8_weigh_86 rfl (vp_in_nI e8 (by decide)) ?_
            refine gz_iload hC dX8_weigh_87 rfl ?_
            exact gz_iret hC dX8_weigh_89 (Or.inr ⟨by unfold sp_wok; rw [q1, q2, q3, ← Bool.and_assoc (sp_bon d0 d1 F a5), q4, q6]; rfl, by rw [e9]; exact e8, by rw [e9, nI_clamp (by omega)], by rw [e9, nI_clamp (by omega)]⟩)
          · have q6 := gz_b0 c50
            refine gz_bipush hC (-2) dX8_weigh_53 (by decide) ?_
            exact gz_iret hC dX8_weigh_55 (Or.inl ⟨by unfold sp_wok; first | (rw [q1, q2, q3, ← Bool.and_assoc (sp_bon d0 d1 F a5), q4, q6]; rfl) | (rw [q1, q2, q3, ← Bool.and_assoc (sp_bon d0 d1 F a5), q4]; rfl) | (rw [q1, q2, q3]; rfl) | (rw [q1, q2]; rfl) | (rw [q1]; rfl), rfl, rfl⟩)
      refine gz_iload hC dX8_weigh_16 rfl ?_
      refine gz_iconst hC (-1) dX8_weigh_18 (by decide) ?_
      refine gz_icmp_eq hC 31 dX8_weigh_19 (by decide) (fun c19 => ?_) (fun c19 => ?_)
      · refine gz_lw [(0, .ref (ad 0)), (1, .int a1), (2, .int a2), (3, .int a3), (4, .int a4), (5, .int a5), (6, .int a6)] ⟨rfl, rfl, rfl, rfl, rfl, rfl, rfl, trivial⟩ ?_
        exact rest (by unfold sp_bon; rw [decide_eq_true c19]; rfl)
      · refine gz_aload_n hC dX8_weigh_22 rfl ?_
        refine gz_iload hC dX8_weigh_23 rfl ?_
        refine gz_callV1 hC dX8_weigh_25 ml_X8_105 rfl rfl (by decide) (by decide) (Nat.le_of_ble_eq_true rfl) (ct_X8_isBid hJ _ _ d0 d1 F w hX.1 _) (fun v25 M25 hp25 => ?_)
        obtain ⟨rfl, rfl⟩ := hp25
        refine gz_if_eq hC 53 dX8_weigh_28 (by decide) (fun c28 => ?_) (fun c28 => ?_)
        · have q3 : sp_bon d0 d1 F a4 = false := by unfold sp_bon; rw [decide_eq_false c19, gz_b0 c28]; rfl
          refine gz_bipush hC (-2) dX8_weigh_53 (by decide) ?_
          exact gz_iret hC dX8_weigh_55 (Or.inl ⟨by unfold sp_wok; first | (rw [q1, q2, q3, ← Bool.and_assoc (sp_bon d0 d1 F a5), q4, q6]; rfl) | (rw [q1, q2, q3, ← Bool.and_assoc (sp_bon d0 d1 F a5), q4]; rfl) | (rw [q1, q2, q3]; rfl) | (rw [q1, q2]; rfl) | (rw [q1]; rfl), rfl, rfl⟩)
        · refine gz_lw [(0, .ref (ad 0)), (1, .int a1), (2, .int a2), (3, .int a3), (4, .int a4), (5, .int a5), (6, .int a6)] ⟨rfl, rfl, rfl, rfl, rfl, rfl, rfl, trivial⟩ ?_
          exact rest (by unfold sp_bon; rw [gz_b1 c28, Bool.or_true])
  -- places not laid: [31, 32, 34, 36, 39, 42, 44, 45, 47, 50, 56, 57, 58, 59, 60, 62, 64, 67, 69, 70, 73, 75, 76, 78, 79, 82, 84, 86, 87, 89]
set_option maxHeartbeats 4000000 in
set_option maxRecDepth 100000 in
theorem ct_X8_total (hJ : gz_inj ad lm_lay) (I : Nat → Nat → Int32) (G : Nat → Nat → UInt64) (d0 d1 F : Nat) (w : Bool) (hO : cf_ok d0 d1 F) (hX : xm_tab d0 d1 F w I) (plan pl hh la : Nat) (hp : pl < 2) (hpn : plan < 4) (hh4 : hh < 4) (hla : la ≤ (d0 + d1) * F) (hw : wt_ok (I 4)) (x1 x2 x3 x4 : Int32) (hx1 : x1 = nI plan) (hx2 : x2 = nI pl) (hx3 : x3 = nI hh) (hx4 : x4 = nI la - 1) : gz_Ct l D ad cy lm_lay yX8_total cX8_total 7 (some .int) 3 [.ref (ad 0), .int x1, .int x2, .int x3, .int x4] (I, G) (fun v M1 => v = some (.int (nI (sh_T (I 4) (tb_ix plan (tb_d d0 d1 pl) hh la 0) la ((d0 + d1) * F + 1)))) ∧ M1 = (I, G)) := by
  have T := tb_facts (cf_okP hO hp)
  have Bd := cf_bids hO
  refine gz_met (by decide +kernel) hJ (Nat.le_of_ble_eq_true rfl) ?_
  intro p e s m args below meth c hC
  refine gz_iconst hC (0) dX8_total_0 (by decide) ?_
  refine gz_istore hC dX8_total_1 (by decide) ?_
  refine gz_iload hC dX8_total_3 rfl ?_
  refine gz_iconst hC (-1) dX8_total_5 (by decide) ?_
  have lp : ∀ (n q : Nat) (x5 x6 : Int32) (hi : q + n = (d0 + d1) * F + 1) (hx6 : x6 = nI q - 1) (hx5 : x5 = nI (sh_T (I 4) (tb_ix plan (tb_d d0 d1 pl) hh la 0) la q)), gz_W p l e (gz_rm 3) s m args below meth c D ad cy lm_lay 7 (MQ below (gz_Q D ad cy lm_lay (fun v M1 => v = some (.int (nI (sh_T (I 4) (tb_ix plan (tb_d d0 d1 pl) hh la 0) la ((d0 + d1) * F + 1)))) ∧ M1 = (I, G))) args s 0 0 (gz_A ad lm_lay)) (I, G) 16 [(0, .ref (ad 0)), (1, .int x1), (2, .int x2), (3, .int x3), (4, .int x4), (5, .int x5), (6, .int x6)] [] := by
    intro n
    induction n with
    | zero =>
      intro q x5 x6 hi hx6 hx5
      refine gz_iload hC dX8_total_16 rfl ?_
      refine gz_aload_n hC dX8_total_18 rfl ?_
      refine gz_callV0 hC dX8_total_19 ml_X8_89 rfl rfl (by decide) (by decide) (Nat.le_of_ble_eq_true rfl) (ct_X8_most hJ _ _ d0 d1 F w hX.1) (fun v19 M19 hp19 => ?_)
      obtain ⟨rfl, rfl⟩ := hp19
      refine gz_icmp_ge hC 67 dX8_total_22 (by decide) (fun c22 => ?_) (fun c22 => ?_)
      · refine gz_iload hC dX8_total_67 rfl ?_
        exact gz_iret hC dX8_total_69 ⟨gz_v (by rw [hx5, show q = (d0 + d1) * F + 1 by omega]), rfl⟩
      · exact absurd (nM_ge hx6 rfl (by omega) (by omega) (by omega)) c22
    | succ n ih =>
      intro q x5 x6 hi hx6 hx5
      refine gz_iload hC dX8_total_16 rfl ?_
      refine gz_aload_n hC dX8_total_18 rfl ?_
      refine gz_callV0 hC dX8_total_19 ml_X8_89 rfl rfl (by decide) (by decide) (Nat.le_of_ble_eq_true rfl) (ct_X8_most hJ _ _ d0 d1 F w hX.1) (fun v19 M19 hp19 => ?_)
      obtain ⟨rfl, rfl⟩ := hp19
      refine gz_icmp_ge hC 67 dX8_total_22 (by decide) (fun c22 => ?_) (fun c22 => ?_)
      · exact absurd c22 (nM_nge hx6 rfl (by omega) (by omega) (by omega))
      · refine gz_iload hC dX8_total_25 rfl ?_
        refine gz_aload_n hC dX8_total_27 rfl ?_
        refine gz_iload hC dX8_total_28 rfl ?_
        refine gz_iload hC dX8_total_30 rfl ?_
        refine gz_callV2 hC dX8_total_32 ml_X8_120 rfl rfl (by decide) (by decide) (Nat.le_of_ble_eq_true rfl) (ct_X8_mayMove hJ _ _ d0 d1 F w hX.1 _ _) (fun v32 M32 hp32 => ?_)
        obtain ⟨rfl, rfl⟩ := hp32
        rw [show sp_bon d0 d1 F x6 = true by rw [hx6]; exact sp_bon_N hO (by omega), Bool.true_and, gz_mfN hx4 hx6 (by omega) (by omega)]
        refine gz_if_eq hC 57 dX8_total_35 (by decide) (fun c35 => ?_) (fun c35 => ?_)
        · have hv := gz_b0 c35
          refine gz_iconst hC (0) dX8_total_57 (by decide) ?_
          refine gz_iadd hC dX8_total_58 ?_
          refine gz_istore hC dX8_total_59 (by decide) ?_
          refine gz_iinc hC (1) dX8_total_61 rfl (by decide) (by decide) ?_
          refine gz_goto hC 16 dX8_total_64 (by decide) ?_
          first
            | (have hv1 : tb_mf la q = true := hv
               refine gz_lw [(0, .ref (ad 0)), (1, .int x1), (2, .int x2), (3, .int x3), (4, .int x4), (5, .int _), (6, .int (x6 + 1))] ⟨rfl, rfl, rfl, rfl, rfl, rfl, rfl, trivial⟩ ?_
               exact ih (q + 1) _ _ (by omega) (nM_s hx6) (by rw [hx5, hwq, nI_add]; show nI (_ + sh_wn (I 4) (tb_ix plan (tb_d d0 d1 pl) hh la 0 + q)) = nI (_ + cond (tb_mf la q) _ _); rw [hv1]; rfl)
               done)
            | (have hv1 : tb_mf la q = false := hv
               refine gz_lw [(0, .ref (ad 0)), (1, .int x1), (2, .int x2), (3, .int x3), (4, .int x4), (5, .int _), (6, .int (x6 + 1))] ⟨rfl, rfl, rfl, rfl, rfl, rfl, rfl, trivial⟩ ?_
               exact ih (q + 1) _ _ (by omega) (nM_s hx6) (by rw [hx5, Int32.add_zero]; show nI _ = nI (_ + cond (tb_mf la q) _ _); rw [hv1]; rfl)
               done)
        · have hv := gz_b1 c35
          refine gz_aload_n hC dX8_total_38 rfl ?_
          refine gz_getR (j := 7) hC dX8_total_39 cf_X8 fl_X8_29 rfl rfl (by decide) ?_
          refine gz_aload_n hC dX8_total_42 rfl ?_
          refine gz_iload_n hC dX8_total_43 rfl ?_
          refine gz_iload_n hC dX8_total_44 rfl ?_
          refine gz_iload_n hC dX8_total_45 rfl ?_
          refine gz_iload hC dX8_total_46 rfl ?_
          refine gz_iload hC dX8_total_48 rfl ?_
          refine gz_callV5 hC dX8_total_50 ml_X8_123 rfl rfl (by decide) (by decide) (Nat.le_of_ble_eq_true rfl) (ct_X8_at hJ _ _ d0 d1 F w hO hX plan pl hh la q hp _ _ _ _ _ hx1 hx2 hx3 hx4 hx6) (fun v50 M50 hp50 => ?_)
          obtain ⟨rfl, rfl⟩ := hp50
          have e8 := tb_ix_lt hpn T.2.2.2.2.2.2.2.1 T.2.2.2.2.2.1 hh4 (show la < 9 by omega) (show q < 9 by omega)
          refine gz_iald hC dX8_total_53 rfl (vp_in_nI e8 (by decide)) ?_
          rw [show (nI (tb_ix plan (tb_d d0 d1 pl) hh la q)).toNatClampNeg = tb_ix plan (tb_d d0 d1 pl) hh la q from nI_clamp (by omega)]
          have hwq := (hw _ e8).1
          refine gz_goto hC 58 dX8_total_54 (by decide) ?_
          refine gz_iadd hC dX8_total_58 ?_
          refine gz_istore hC dX8_total_59 (by decide) ?_
          refine gz_iinc hC (1) dX8_total_61 rfl (by decide) (by decide) ?_
          refine gz_goto hC 16 dX8_total_64 (by decide) ?_
          first
            | (have hv1 : tb_mf la q = true := hv
               refine gz_lw [(0, .ref (ad 0)), (1, .int x1), (2, .int x2), (3, .int x3), (4, .int x4), (5, .int _), (6, .int (x6 + 1))] ⟨rfl, rfl, rfl, rfl, rfl, rfl, rfl, trivial⟩ ?_
               exact ih (q + 1) _ _ (by omega) (nM_s hx6) (by rw [hx5, hwq, nI_add]; show nI (_ + sh_wn (I 4) (tb_ix plan (tb_d d0 d1 pl) hh la 0 + q)) = nI (_ + cond (tb_mf la q) _ _); rw [hv1]; rfl)
               done)
            | (have hv1 : tb_mf la q = false := hv
               refine gz_lw [(0, .ref (ad 0)), (1, .int x1), (2, .int x2), (3, .int x3), (4, .int x4), (5, .int _), (6, .int (x6 + 1))] ⟨rfl, rfl, rfl, rfl, rfl, rfl, rfl, trivial⟩ ?_
               exact ih (q + 1) _ _ (by omega) (nM_s hx6) (by rw [hx5, Int32.add_zero]; show nI _ = nI (_ + cond (tb_mf la q) _ _); rw [hv1]; rfl)
               done)
  refine gz_icmp_ne hC 13 dX8_total_6 (by decide) (fun c6 => ?_) (fun c6 => ?_)
  · refine gz_iconst hC (-1) dX8_total_13 (by decide) ?_
    refine gz_istore hC dX8_total_14 (by decide) ?_
    exact gz_lw [(0, .ref (ad 0)), (1, .int x1), (2, .int x2), (3, .int x3), (4, .int x4), (5, .int 0), (6, .int (-1))] ⟨rfl, rfl, rfl, rfl, rfl, rfl, rfl, trivial⟩ (lp ((d0 + d1) * F + 1) 0 0 (-1) (by omega) nM_0 rfl)
  · have hl0 : la = 0 := by
      have q := nM_to hx4
      rw [c6] at q
      exact ((nI_eq (a := 0) (b := la) (by omega) (by omega)).mp q).symm
    refine gz_iconst hC (0) dX8_total_9 (by decide) ?_
    refine gz_goto hC 14 dX8_total_10 (by decide) ?_
    refine gz_istore hC dX8_total_14 (by decide) ?_
    exact gz_lw [(0, .ref (ad 0)), (1, .int x1), (2, .int x2), (3, .int x3), (4, .int x4), (5, .int 0), (6, .int 0)] ⟨rfl, rfl, rfl, rfl, rfl, rfl, rfl, trivial⟩ (lp ((d0 + d1) * F) 1 0 0 (by omega) (by decide) (by rw [hl0]; rfl))
  -- places not laid: [13, 18, 19, 22, 25, 27, 28, 30, 32, 35, 38, 39, 42, 43, 44, 45, 46, 48, 50, 53, 54, 57, 58, 59, 61, 64, 67, 69]
set_option maxHeartbeats 4000000 in
set_option maxRecDepth 100000 in
theorem ct_X8_part (hJ : gz_inj ad lm_lay) (I : Nat → Nat → Int32) (G : Nat → Nat → UInt64) (d0 d1 F : Nat) (w : Bool) (hO : cf_ok d0 d1 F) (hX : xm_tab d0 d1 F w I) (plan pl hh la : Nat) (hp : pl < 2) (hpn : plan < 4) (hh4 : hh < 4) (hla : la ≤ (d0 + d1) * F) (hw : wt_ok (I 4)) (x1 x2 x3 x4 : Int32) (hx1 : x1 = nI plan) (hx2 : x2 = nI pl) (hx3 : x3 = nI hh) (hx4 : x4 = nI la - 1) (q : Nat) (hq : q ≤ (d0 + d1) * F) (hmf : tb_mf la q = true) (x5 : Int32) (hx5 : x5 = nI q - 1) : gz_Ct l D ad cy lm_lay yX8_part cX8_part 7 (some .double) 4 [.ref (ad 0), .int x1, .int x2, .int x3, .int x4, .int x5] (I, G) (fun v M1 => v = some (.double (sh_v (I 4) (tb_ix plan (tb_d d0 d1 pl) hh la 0) la ((d0 + d1) * F) q)) ∧ M1 = (I, G)) := by
  have T := tb_facts (cf_okP hO hp)
  have Bd := cf_bids hO
  refine gz_met (by decide +kernel) hJ (Nat.le_of_ble_eq_true rfl) ?_
  intro p e s m args below meth c hC
  refine gz_aload_n hC dX8_part_0 rfl ?_
  refine gz_iload_n hC dX8_part_1 rfl ?_
  refine gz_iload_n hC dX8_part_2 rfl ?_
  refine gz_iload_n hC dX8_part_3 rfl ?_
  refine gz_iload hC dX8_part_4 rfl ?_
  refine gz_callV4 hC dX8_part_6 ml_X8_127 rfl rfl (by decide) (by decide) (Nat.le_of_ble_eq_true rfl) (ct_X8_total hJ _ _ d0 d1 F w hO hX plan pl hh la hp hpn hh4 hla hw _ _ _ _ hx1 hx2 hx3 hx4) (fun v6 M6 hp6 => ?_)
  obtain ⟨rfl, rfl⟩ := hp6
  have hTl := sh_T_le (wt := I 4) (base := tb_ix plan (tb_d d0 d1 pl) hh la 0) (la := la) hw ((d0 + d1) * F + 1) (by unfold tb_ix; omega)
  refine gz_istore hC dX8_part_9 (by decide) ?_
  refine gz_iload hC dX8_part_11 rfl ?_
  refine gz_if_ne hC 38 dX8_part_13 (by decide) (fun c13 => ?_) (fun c13 => ?_)
  · have hT : ¬ sh_T (I 4) (tb_ix plan (tb_d d0 d1 pl) hh la 0) la ((d0 + d1) * F + 1) = 0 := fun q => c13 (by rw [q]; rfl)
    have hv : sh_v (I 4) (tb_ix plan (tb_d d0 d1 pl) hh la 0) la ((d0 + d1) * F) q = FP.ddiv (FP.i2d (I 4 ((tb_ix plan (tb_d d0 d1 pl) hh la 0) + q))) (FP.i2d (nI (sh_T (I 4) (tb_ix plan (tb_d d0 d1 pl) hh la 0) la ((d0 + d1) * F + 1)))) := by unfold sh_v; rw [hmf, if_neg hT]; rfl
    have hn := sh_b (la := la) (bids := (d0 + d1) * F) (q := q) (base := tb_ix plan (tb_d d0 d1 pl) hh la 0) hw (by unfold tb_ix; omega) (by omega) (by omega)
    refine gz_aload_n hC dX8_part_38 rfl ?_
    refine gz_getR (j := 7) hC dX8_part_39 cf_X8 fl_X8_29 rfl rfl (by decide) ?_
    refine gz_aload_n hC dX8_part_42 rfl ?_
    refine gz_iload_n hC dX8_part_43 rfl ?_
    refine gz_iload_n hC dX8_part_44 rfl ?_
    refine gz_iload_n hC dX8_part_45 rfl ?_
    refine gz_iload hC dX8_part_46 rfl ?_
    refine gz_iload hC dX8_part_48 rfl ?_
    refine gz_callV5 hC dX8_part_50 ml_X8_123 rfl rfl (by decide) (by decide) (Nat.le_of_ble_eq_true rfl) (ct_X8_at hJ _ _ d0 d1 F w hO hX plan pl hh la q hp _ _ _ _ _ hx1 hx2 hx3 hx4 hx5) (fun v50 M50 hp50 => ?_)
    obtain ⟨rfl, rfl⟩ := hp50
    have e8 := tb_ix_lt hpn T.2.2.2.2.2.2.2.1 T.2.2.2.2.2.1 hh4 (show la < 9 by omega) (show q < 9 by omega)
    refine gz_iald hC dX8_part_53 rfl (vp_in_nI e8 (by decide)) ?_
    rw [show (nI (tb_ix plan (tb_d d0 d1 pl) hh la q)).toNatClampNeg = (tb_ix plan (tb_d d0 d1 pl) hh la 0) + q from nI_clamp (by omega)]
    refine gz_i2d hC dX8_part_54 ?_
    refine gz_iload hC dX8_part_55 rfl ?_
    refine gz_i2d hC dX8_part_57 ?_
    refine gz_ddiv hC dX8_part_58 (by rw [← hv]; exact fp_b_n64 hn (by decide)) ?_
    exact gz_dret hC dX8_part_59 ⟨by rw [hv], rfl⟩
  · have hT : sh_T (I 4) (tb_ix plan (tb_d d0 d1 pl) hh la 0) la ((d0 + d1) * F + 1) = 0 := (nI_eq (by omega) (by omega)).mp c13
    have hv : sh_v (I 4) (tb_ix plan (tb_d d0 d1 pl) hh la 0) la ((d0 + d1) * F) q = (if q = sh_first la then sh_one else 0) := by unfold sh_v; rw [hmf, if_pos hT]; rfl
    refine gz_iload hC dX8_part_16 rfl ?_
    refine gz_iload hC dX8_part_18 rfl ?_
    refine gz_iconst hC (-1) dX8_part_20 (by decide) ?_
    refine gz_icmp_ne hC 28 dX8_part_21 (by decide) (fun c21 => ?_) (fun c21 => ?_)
    · have hl0 : ¬ la = 0 := fun q => c21 (by rw [hx4, q]; rfl)
      have hfi : sh_first la = 0 := if_neg hl0
      refine gz_iconst hC (-1) dX8_part_28 (by decide) ?_
      refine gz_icmp_ne hC 36 dX8_part_29 (by decide) (fun c29 => ?_) (fun c29 => ?_)
      · have hqf : ¬ q = sh_first la := fun z => c29 (by rw [hx5, z, hfi]; decide)
        refine gz_dconst0 hC dX8_part_36 ?_
        exact gz_dret hC dX8_part_37 (by first | exact ⟨by rw [hv, if_pos hqf]; rfl, rfl⟩ | exact ⟨by rw [hv, if_neg hqf], rfl⟩)
      · have hqf : q = sh_first la := by
          have z := nM_to hx5
          rw [c29] at z
          rw [hfi]
          exact (nI_eq (by omega) (by omega)).mp (z.symm.trans (by decide))
        refine gz_dconst1 hC dX8_part_32 ?_
        refine gz_goto hC 37 dX8_part_33 (by decide) ?_
        exact gz_dret hC dX8_part_37 (by first | exact ⟨by rw [hv, if_pos hqf]; rfl, rfl⟩ | exact ⟨by rw [hv, if_neg hqf], rfl⟩)
    · have hl0 : la = 0 := by
        have q := nM_to hx4
        rw [c21] at q
        exact ((nI_eq (a := 0) (b := la) (by omega) (by omega)).mp q).symm
      have hfi : sh_first la = 1 := by rw [hl0]; rfl
      refine gz_iconst hC (0) dX8_part_24 (by decide) ?_
      refine gz_goto hC 29 dX8_part_25 (by decide) ?_
      refine gz_icmp_ne hC 36 dX8_part_29 (by decide) (fun c29 => ?_) (fun c29 => ?_)
      · have hqf : ¬ q = sh_first la := fun z => c29 (by rw [hx5, z, hfi]; decide)
        refine gz_dconst0 hC dX8_part_36 ?_
        exact gz_dret hC dX8_part_37 (by first | exact ⟨by rw [hv, if_pos hqf]; rfl, rfl⟩ | exact ⟨by rw [hv, if_neg hqf], rfl⟩)
      · have hqf : q = sh_first la := by
          have z := nM_to hx5
          rw [c29] at z
          rw [hfi]
          exact (nI_eq (by omega) (by omega)).mp (z.symm.trans (by decide))
        refine gz_dconst1 hC dX8_part_32 ?_
        refine gz_goto hC 37 dX8_part_33 (by decide) ?_
        exact gz_dret hC dX8_part_37 (by first | exact ⟨by rw [hv, if_pos hqf]; rfl, rfl⟩ | exact ⟨by rw [hv, if_neg hqf], rfl⟩)
set_option maxHeartbeats 4000000 in
set_option maxRecDepth 100000 in
theorem ct_X8_wins (hJ : gz_inj ad lm_lay) (I : Nat → Nat → Int32) (G : Nat → Nat → UInt64) (d0 d1 F : Nat) (w : Bool) (hO : cf_ok d0 d1 F) (hX : xm_tab d0 d1 F w I) (pw cw gg hh bb : Nat) (hpw : pw < 2) (hcw : cw < 2) (x1 x2 x3 x4 x5 : Int32) (hx1 : x1 = nI pw) (hx2 : x2 = nI cw) (hx3 : x3 = nI gg) (hx4 : x4 = nI hh) (hx5 : x5 = nI bb) (hg : gg < tb_n d0 F) (hh1 : hh < tb_n d1 F) (hb : bb < (d0 + d1) * F) : gz_Ct l D ad cy lm_lay yX8_wins cX8_wins 6 (some .boolean) 2 [.ref (ad 0), .int x1, .int x2, .int x3, .int x4, .int x5] (I, G) (fun v M1 => v = some (.int (gz_b (decide (¬ pw = cw) == tb_t d0 d1 F w gg hh bb))) ∧ M1 = (I, G)) := by
  refine gz_met (by decide +kernel) hJ (Nat.le_of_ble_eq_true rfl) ?_
  intro p e s m args below meth c hC
  refine gz_aload_n hC dX8_wins_0 rfl ?_
  refine gz_iload_n hC dX8_wins_1 rfl ?_
  refine gz_iload hC dX8_wins_2 rfl ?_
  refine gz_iload hC dX8_wins_4 rfl ?_
  refine gz_callV3 hC dX8_wins_6 ml_X8_108 rfl rfl (by decide) (by decide) (Nat.le_of_ble_eq_true rfl) (ct_X8_doesHold hJ _ _ d0 d1 F w hO hX gg hh bb _ _ _ hx3 hx4 hx5 hg hh1 hb) (fun v6 M6 hp6 => ?_)
  obtain ⟨rfl, rfl⟩ := hp6
  refine gz_iload_n hC dX8_wins_9 rfl ?_
  refine gz_iload_n hC dX8_wins_10 rfl ?_
  refine gz_icmp_eq hC 18 dX8_wins_11 (by decide) (fun c11 => ?_) (fun c11 => ?_)
  · have hd9 : decide (¬ pw = cw) = false := decide_eq_false (fun q => q ((nI_eq (by omega) (by omega)).mp (by rw [← hx1, c11, hx2])))
    refine gz_iconst hC (0) dX8_wins_18 (by decide) ?_
    refine gz_icmp_ne hC 26 dX8_wins_19 (by decide) (fun c19 => ?_) (fun c19 => ?_)
    · refine gz_iconst hC (0) dX8_wins_26 (by decide) ?_
      exact gz_zret rfl hC dX8_wins_27 ⟨gz_v (by rw [hd9]; cases e : tb_t d0 d1 F w gg hh bb <;> rw [e] at c19 <;> first | rfl | exact absurd rfl c19 | exact absurd c19 (by decide)), rfl⟩
    · refine gz_iconst hC (1) dX8_wins_22 (by decide) ?_
      refine gz_goto hC 27 dX8_wins_23 (by decide) ?_
      exact gz_zret rfl hC dX8_wins_27 ⟨gz_v (by rw [hd9]; cases e : tb_t d0 d1 F w gg hh bb <;> rw [e] at c19 <;> first | rfl | exact absurd rfl c19 | exact absurd c19 (by decide)), rfl⟩
  · have hd9 : decide (¬ pw = cw) = true := decide_eq_true (fun q => c11 (by rw [hx1, hx2, q]))
    refine gz_iconst hC (1) dX8_wins_14 (by decide) ?_
    refine gz_goto hC 19 dX8_wins_15 (by decide) ?_
    refine gz_icmp_ne hC 26 dX8_wins_19 (by decide) (fun c19 => ?_) (fun c19 => ?_)
    · refine gz_iconst hC (0) dX8_wins_26 (by decide) ?_
      exact gz_zret rfl hC dX8_wins_27 ⟨gz_v (by rw [hd9]; cases e : tb_t d0 d1 F w gg hh bb <;> rw [e] at c19 <;> first | rfl | exact absurd rfl c19 | exact absurd c19 (by decide)), rfl⟩
    · refine gz_iconst hC (1) dX8_wins_22 (by decide) ?_
      refine gz_goto hC 27 dX8_wins_23 (by decide) ?_
      exact gz_zret rfl hC dX8_wins_27 ⟨gz_v (by rw [hd9]; cases e : tb_t d0 d1 F w gg hh bb <;> rw [e] at c19 <;> first | rfl | exact absurd rfl c19 | exact absurd c19 (by decide)), rfl⟩
set_option maxHeartbeats 4000000 in
set_option maxRecDepth 100000 in
theorem ct_X8_winsBy (hJ : gz_inj ad lm_lay) (I : Nat → Nat → Int32) (G : Nat → Nat → UInt64) (d0 d1 F : Nat) (w : Bool) (hO : cf_ok d0 d1 F) (hX : xm_tab d0 d1 F w I) (pw cw own oth bb : Nat) (hpw : pw < 2) (hcw : cw < 2) (x1 x2 x3 x4 x5 : Int32) (hx1 : x1 = nI pw) (hx2 : x2 = nI cw) (hx3 : x3 = nI own) (hx4 : x4 = nI oth) (hx5 : x5 = nI bb) (ho : own < tb_n (tb_d d0 d1 pw) F) (hh1 : oth < tb_n (tb_d d0 d1 (1 - pw)) F) (hb : bb < (d0 + d1) * F) : gz_Ct l D ad cy lm_lay yX8_winsBy cX8_winsBy 6 (some .boolean) 3 [.ref (ad 0), .int x1, .int x2, .int x3, .int x4, .int x5] (I, G) (fun v M1 => v = some (.int (gz_b (decide (¬ pw = cw) == tb_tf d0 d1 F w pw own oth bb))) ∧ M1 = (I, G)) := by
  refine gz_met (by decide +kernel) hJ (Nat.le_of_ble_eq_true rfl) ?_
  intro p e s m args below meth c hC
  refine gz_aload_n hC dX8_winsBy_0 rfl ?_
  refine gz_iload_n hC dX8_winsBy_1 rfl ?_
  refine gz_iload_n hC dX8_winsBy_2 rfl ?_
  refine gz_iload_n hC dX8_winsBy_3 rfl ?_
  refine gz_if_ne hC 11 dX8_winsBy_4 (by decide) (fun c4 => ?_) (fun c4 => ?_)
  · have e3 : pw = 1 := by rcases (show pw = 0 ∨ pw = 1 by omega) with q | q; exact absurd (by rw [hx1, q]; rfl) c4; exact q
    refine gz_iload hC dX8_winsBy_11 rfl ?_
    refine gz_iload_n hC dX8_winsBy_13 rfl ?_
    refine gz_if_ne hC 22 dX8_winsBy_14 (by decide) (fun c14 => ?_) (fun c14 => ?_)
    · refine gz_iload_n hC dX8_winsBy_22 rfl ?_
      refine gz_iload hC dX8_winsBy_23 rfl ?_
      refine gz_callV5 hC dX8_winsBy_25 ml_X8_135 rfl rfl (by decide) (by decide) (Nat.le_of_ble_eq_true rfl) (ct_X8_wins hJ _ _ d0 d1 F w hO hX pw cw oth own bb hpw hcw _ _ _ _ _ hx1 hx2 hx4 hx3 hx5 (by subst e3; exact hh1) (by subst e3; exact ho) hb) (fun v25 M25 hp25 => ?_)
      obtain ⟨rfl, rfl⟩ := hp25
      exact gz_zret (gz_bn _) hC dX8_winsBy_28 ⟨gz_v (by unfold tb_tf; rw [e3]; rfl), rfl⟩
    · exact absurd c14 (by rw [hx1, e3]; decide)
  · have e3 : pw = 0 := by rcases (show pw = 0 ∨ pw = 1 by omega) with q | q; exact q; exact absurd c4 (by rw [hx1, q]; decide)
    refine gz_iload_n hC dX8_winsBy_7 rfl ?_
    refine gz_goto hC 13 dX8_winsBy_8 (by decide) ?_
    refine gz_iload_n hC dX8_winsBy_13 rfl ?_
    refine gz_if_ne hC 22 dX8_winsBy_14 (by decide) (fun c14 => ?_) (fun c14 => ?_)
    · exact absurd (by rw [hx1, e3]; rfl) c14
    · refine gz_iload hC dX8_winsBy_17 rfl ?_
      refine gz_goto hC 23 dX8_winsBy_19 (by decide) ?_
      refine gz_iload hC dX8_winsBy_23 rfl ?_
      refine gz_callV5 hC dX8_winsBy_25 ml_X8_135 rfl rfl (by decide) (by decide) (Nat.le_of_ble_eq_true rfl) (ct_X8_wins hJ _ _ d0 d1 F w hO hX pw cw own oth bb hpw hcw _ _ _ _ _ hx1 hx2 hx3 hx4 hx5 (by subst e3; exact ho) (by subst e3; exact hh1) hb) (fun v25 M25 hp25 => ?_)
      obtain ⟨rfl, rfl⟩ := hp25
      exact gz_zret (gz_bn _) hC dX8_winsBy_28 ⟨gz_v (by unfold tb_tf; rw [e3]; rfl), rfl⟩
  -- places not laid: [7, 8, 11, 13, 14, 17, 19, 22, 23, 25, 28]
end CT
