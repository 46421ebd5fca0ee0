/-! worth, answer, opening, reply -/
def an_S (wt : Nat → Int32) (d0 d1 F plan pl k la q : Nat) : UInt64 := sh_v wt (tb_ix plan (tb_d d0 d1 (1 - pl)) k la 0) la ((d0 + d1) * F) q
def an_R0 (d0 d1 F pl : Nat) : Nat → UInt64 := fun k => FP.i2d (nI (tb_w (tb_d d0 d1 (1 - pl)) F k))
theorem an_S_ok {wt : Nat → Int32} {d0 d1 F plan pl : Nat} (hw : wt_ok wt) (hO : cf_ok d0 d1 F) (hpl : plan < 4) (hp : pl < 2) : an_ok (an_nO d0 d1 F pl) ((d0 + d1) * F) (an_S wt d0 d1 F plan pl) := by
  obtain ⟨T1, T2, T3, T4, T5, T6, T7, T8, T9⟩ := tb_facts (cf_okP hO (pl := 1 - pl) (by omega))
  have U := tb_facts hO.1
  have V := tb_facts hO.2.1
  have Bd := cf_bids hO
  have h4 : 2 * 2 ≤ (d0 + d1) * F := Nat.mul_le_mul (by omega) T9
  refine ⟨T5, Bd.2, by omega, fun k hk la hla q hq => ?_⟩
  have hk4 : k < 4 := Nat.lt_of_lt_of_le hk T5
  exact sh_b hw (by unfold tb_ix; omega) hq Bd.2
theorem an_R0_b {d0 d1 F pl : Nat} (hO : cf_ok d0 d1 F) (hp : pl < 2) : ∀ k, fp_b 1056 (an_R0 d0 d1 F pl k) := fun k => by
  have h := tb_w_le (F := F) (h := k) (tb_facts (cf_okP hO (pl := 1 - pl) (by omega))).2.2.2.2.2.1
  exact fp_b_i2d (by omega)
def an_v (wt : Nat → Int32) (d0 d1 F : Nat) (w : Bool) (plan pl own : Nat) : UInt64 := an_V (an_nO d0 d1 F pl) ((d0 + d1) * F) (an_t d0 d1 F w pl own) (an_S wt d0 d1 F plan pl) 9 (decide (0 = pl)) 0 (an_R0 d0 d1 F pl)
def an_s (wt : Nat → Int32) (d0 d1 F : Nat) (w : Bool) (plan pl : Nat) : Nat → UInt64
  | 0 => 0
  | g + 1 => FP.dadd (an_s wt d0 d1 F w plan pl g) (FP.dmul (FP.i2d (nI (tb_w (tb_d d0 d1 pl) F g))) (an_v wt d0 d1 F w plan pl g))
def an_all (wt : Nat → Int32) (d0 d1 F : Nat) (w : Bool) (plan pl : Nat) : UInt64 := FP.ddiv (an_s wt d0 d1 F w plan pl (tb_n (tb_d d0 d1 pl) F)) (FP.i2d (nI (F ^ d0 * F ^ d1)))
theorem an_v_b {wt : Nat → Int32} {d0 d1 F plan pl : Nat} (w : Bool) (own : Nat) (hw : wt_ok wt) (hO : cf_ok d0 d1 F) (hpl : plan < 4) (hp : pl < 2) : fp_b 1604 (an_v wt d0 d1 F w plan pl own) :=
  an_V_b (an_S_ok hw hO hpl hp) 9 _ 0 _ 1056 (Nat.zero_le _) (by decide) (by decide) (fun k _ => an_R0_b hO hp k)
theorem an_term_b {wt : Nat → Int32} {d0 d1 F plan pl : Nat} (w : Bool) (own : Nat) (hw : wt_ok wt) (hO : cf_ok d0 d1 F) (hpl : plan < 4) (hp : pl < 2) : fp_b 1638 (FP.dmul (FP.i2d (nI (tb_w (tb_d d0 d1 pl) F own))) (an_v wt d0 d1 F w plan pl own)) := by
  have h := tb_w_le (F := F) (h := own) (tb_facts (cf_okP hO hp)).2.2.2.2.2.1
  exact fp_b_mul (K := 1056) (L := 1604) (fp_b_i2d (by omega)) (an_v_b w own hw hO hpl hp) (by decide) (by decide) (by decide) (by decide)
theorem an_s_b {wt : Nat → Int32} {d0 d1 F plan pl : Nat} (w : Bool) (hw : wt_ok wt) (hO : cf_ok d0 d1 F) (hpl : plan < 4) (hp : pl < 2) : ∀ n, n ≤ 4 → fp_b (1638 + 2 * n) (an_s wt d0 d1 F w plan pl n)
  | 0, _ => fp_b_mono fp_b_0 (by decide)
  | n + 1, h => fp_b_mono (fp_b_add (K := 1638 + 2 * n) (an_s_b w hw hO hpl hp n (by omega)) (fp_b_mono (an_term_b w n hw hO hpl hp) (by omega)) (by omega)) (by omega)
theorem an_pow {d0 d1 F : Nat} (hO : cf_ok d0 d1 F) : 0 < F ^ d0 * F ^ d1 ∧ F ^ d0 * F ^ d1 ≤ 4096 := by
  have T := tb_facts hO.1
  have U := tb_facts hO.2.1
  exact ⟨Nat.mul_pos (Nat.pow_pos (by omega)) (Nat.pow_pos (by omega)), Nat.mul_le_mul (Nat.le_trans (Nat.pow_le_pow_left T.2.2.2.2.2.2.1 d0) (Nat.pow_le_pow_right (by decide) T.2.2.2.2.2.1)) (Nat.le_trans (Nat.pow_le_pow_left T.2.2.2.2.2.2.1 d1) (Nat.pow_le_pow_right (by decide) U.2.2.2.2.2.1))⟩
theorem an_all_b {wt : Nat → Int32} {d0 d1 F plan pl : Nat} (w : Bool) (hw : wt_ok wt) (hO : cf_ok d0 d1 F) (hpl : plan < 4) (hp : pl < 2) : fp_b 1647 (an_all wt d0 d1 F w plan pl) := by
  have h1 := an_s_b w hw hO hpl hp (tb_n (tb_d d0 d1 pl) F) (tb_facts (cf_okP hO hp)).2.2.2.2.1
  have h2 := an_pow hO
  exact fp_b_div (K := 1646) (fp_b_mono h1 (by have := (tb_facts (cf_okP hO hp)).2.2.2.2.1; omega)) (fp_b_i2d (by omega)) (fp_i2d_1 h2.1 (by omega)) (by decide) (by decide) (by decide)
def sp_wor (wt : Nat → Int32) (d0 d1 F : Nat) (w : Bool) (a b : Int32) : Int64 := cond (gz_in a 0 3 && gz_in b 0 3) (lN (wo_all wt d0 d1 F w a.toNatClampNeg b.toNatClampNeg).toNat) (-1)
def sp_ans (wt : Nat → Int32) (d0 d1 F : Nat) (w : Bool) (pl plan : Int32) : Int64 := cond (gz_in pl 0 1 && gz_in plan 0 3) (lN (an_all wt d0 d1 F w plan.toNatClampNeg pl.toNatClampNeg).toNat) (-1)
def an_fb (wt : Nat → Int32) (d0 d1 F : Nat) (w : Bool) (plan pl own la : Nat) (R : Nat → UInt64) : Nat := an_best (an_nO d0 d1 F pl) ((d0 + d1) * F) (an_t d0 d1 F w pl own) (an_S wt d0 d1 F plan pl) 8 la R
def sp_open (wt : Nat → Int32) (d0 d1 F : Nat) (w : Bool) (plan h : Int32) : Int32 := cond (gz_in plan 0 3 && sp_hd d0 d1 F 0 h) (nI (an_fb wt d0 d1 F w plan.toNatClampNeg 0 h.toNatClampNeg 0 (an_R0 d0 d1 F 0)) - 1) (-100)
def an_R1 (wt : Nat → Int32) (d0 d1 F plan q : Nat) : Nat → UInt64 := an_R (an_S wt d0 d1 F plan 1) (an_R0 d0 d1 F 1) 0 q
def an_rb (wt : Nat → Int32) (d0 d1 F : Nat) (w : Bool) (plan own q : Nat) : Int32 := cond (an_any (an_R1 wt d0 d1 F plan q) (an_nO d0 d1 F 1)) (nI (an_fb wt d0 d1 F w plan 1 own q (an_R1 wt d0 d1 F plan q)) - 1) (-1)
def sp_rep (wt : Nat → Int32) (d0 d1 F : Nat) (w : Bool) (plan h b : Int32) : Int32 := cond (gz_in plan 0 3 && (sp_hd d0 d1 F 1 h && sp_bid d0 d1 F b)) (an_rb wt d0 d1 F w plan.toNatClampNeg h.toNatClampNeg (b.toNatClampNeg + 1)) (-100)
def an_of (I J : Nat → Nat → Int32) : Prop := ∀ o, o ≠ 19 → J o = I o
theorem an_of_up {I J : Nat → Nat → Int32} {j : Nat} {x : Int32} (h : an_of I J) : an_of I (gz_up J 19 j x) := fun o ho => (gz_up_ne ho).trans (h o ho)
theorem an_of_fr {I J H : Nat → Nat → Int32} (h : an_of I J) (k : an_fr J H) : an_of I H := fun o ho => (funext (fun j => k o j (Or.inl ho))).trans (h o ho)
theorem an_of_0 {I : Nat → Nat → Int32} : an_of I I := fun _ _ => rfl
theorem an_of_t {I J H : Nat → Nat → Int32} (h : an_of I J) (k : an_of J H) : an_of I H := fun o ho => (k o ho).trans (h o ho)
theorem xi_of {d0 d1 F : Nat} {w : Bool} {I J : Nat → Nat → Int32} (h : xi_tab d0 d1 F w I) (k : an_of I J) : xi_tab d0 d1 F w J := xi_tab_fr h (fun o ho => k o (by omega))
/-- what study leaves -/
def an_G (S : Nat → Nat → Nat → UInt64) (d0 d1 F pl : Nat) (G : Nat → Nat → UInt64) : Prop := ∀ k, k < an_nO d0 d1 F pl → ∀ la, la ≤ (d0 + d1) * F → ∀ q, q ≤ (d0 + d1) * F → G 21 ((k * 9 + la) * 9 + q) = S k la q
section CT
variable {l : Launch} {D : va_G} {ad : Nat → Nat} {cy : Nat → ClassId}
set_option maxHeartbeats 4000000 in
set_option maxRecDepth 100000 in
theorem ct_X0_study (hJ : gz_inj ad lx_lay) (I : Nat → Nat → Int32) (G : Nat → Nat → UInt64) (d0 d1 F : Nat) (w : Bool) (hO : cf_ok d0 d1 F) (hX : xi_tab d0 d1 F w I) (plan pl : Nat) (x2 x3 : Int32) (hx2 : x2 = nI plan) (hx3 : x3 = nI pl) (hpl : plan < 4) (hp : pl < 2) (hw : wt_ok (I 12)) : gz_Ct l D ad cy lx_lay yX0_study cX0_study 4 none 4 [.ref (ad 19), .ref (ad 11), .int x2, .int x3] (I, G) (fun v M1 => ∃ G1, v = none ∧ M1 = (gz_up I 19 3 x3, G1) ∧ an_G (an_S (I 12) d0 d1 F plan pl) d0 d1 F pl G1) := by
  have Bd := cf_bids hO
  refine gz_met (by decide +kernel) hJ (Nat.le_of_ble_eq_true rfl) ?_
  intro p e s m args below meth c hC
  refine gz_aload_n hC dX0_study_0 rfl ?_
  refine gz_iload_n hC dX0_study_1 rfl ?_
  refine gz_put (j := 3) hC dX0_study_2 cf_X0 fl_X0_26 rfl rfl (by decide) rfl rfl rfl ?_
  refine gz_aload_n hC dX0_study_5 rfl ?_
  refine gz_getR (j := 1) hC dX0_study_6 cf_X0 fl_X0_12 rfl rfl (by decide) ?_
  refine gz_aload_n hC dX0_study_9 rfl ?_
  refine gz_iload_n hC dX0_study_10 rfl ?_
  refine gz_aload_n hC dX0_study_11 rfl ?_
  have hX2 : xi_tab d0 d1 F w (gz_up I 19 3 x3) := xi_of hX (an_of_up an_of_0)
  refine gz_callV0 hC dX0_study_12 ml_X0_30 rfl rfl (by decide) (by decide) (Nat.le_of_ble_eq_true rfl) (ct_X0_other hJ _ _ d0 d1 F w hO hX2 pl hp (by rw [gz_up_self, hx3])) (fun v12 M12 hp12 => ?_)
  obtain ⟨rfl, rfl⟩ := hp12
  refine gz_aload_n hC dX0_study_15 rfl ?_
  refine gz_getR (j := 0) hC dX0_study_16 cf_X0 fl_X0_22 rfl rfl (by decide) ?_
  refine gz_getIN (j := 4) hC dX0_study_19 cf_X6 fl_X0_34 rfl rfl (by decide) ?_
  refine gz_callV4 hC dX0_study_22 ml_X0_39 rfl rfl (by decide) (by decide) (Nat.le_of_ble_eq_true rfl) (ct_X5_take hJ _ _ 20 lx_sh20 (3 + 4 * (1 - pl)) (lx_cupP (by omega)) (tb_d d0 d1 (1 - pl)) F ((d0 + d1) * F) plan (cf_okP hO (by omega)) (xi_cupP hX2 (by omega)) _ _ hx2 hX2.2.1 hpl (by rw [gz_up_ne (by decide)]; exact hw) Bd.2 Bd.1) (fun v22 M22 hp22 => ?_)
  obtain ⟨J1, rfl, rfl, k1, k2⟩ := hp22
  exact gz_vret hC dX0_study_25 ⟨J1, rfl, rfl, fun k hk la hla q hq => by rw [k1 k hk la hla q hq, gz_up_ne (by decide)]; rfl⟩
set_option maxHeartbeats 4000000 in
set_option maxRecDepth 100000 in
theorem ct_X0_firstMove (hJ : gz_inj ad lx_lay) (I : Nat → Nat → Int32) (G : Nat → Nat → UInt64) (d0 d1 F : Nat) (w : Bool) (hO : cf_ok d0 d1 F) (hX : xi_tab d0 d1 F w I) (pl own : Nat) (hp : pl < 2) (h0 : pl = 0) (ho : own < tb_n (tb_d d0 d1 pl) F) (S : Nat → Nat → Nat → UInt64) (hA : an_ok (an_nO d0 d1 F pl) ((d0 + d1) * F) S) (hG : an_G S d0 d1 F pl G) (hP : I 19 3 = nI pl) (x1 : Int32) (hx1 : x1 = nI own) : gz_Ct l D ad cy lx_lay yX0_firstMove cX0_firstMove 2 (some .int) 22 [.ref (ad 19), .int x1] (I, G) (fun v M1 => ∃ I1 G1, v = some (.int (nI (an_best (an_nO d0 d1 F pl) ((d0 + d1) * F) (an_t d0 d1 F w pl own) S 8 0 (an_R0 d0 d1 F pl)) - 1)) ∧ M1 = (I1, G1) ∧ an_of I I1) := by
  have Bd := cf_bids hO
  refine gz_met (by decide +kernel) hJ (Nat.le_of_ble_eq_true rfl) ?_
  intro p e s m args below meth c hC
  refine gz_aload_n hC dX0_firstMove_0 rfl ?_
  refine gz_iload_n hC dX0_firstMove_1 rfl ?_
  refine gz_callV1 hC dX0_firstMove_2 ml_X0_52 rfl rfl (by decide) (by decide) (Nat.le_of_ble_eq_true rfl) (ct_X0_hold hJ _ _ d0 d1 F w hO hX pl hp hP _) (fun v2 M2 hp2 => ?_)
  obtain ⟨J1, rfl, rfl, k1, k2⟩ := hp2
  refine gz_aload_n hC dX0_firstMove_5 rfl ?_
  refine gz_iconst hC (-1) dX0_firstMove_6 (by decide) ?_
  refine gz_iconst hC (0) dX0_firstMove_7 (by decide) ?_
  refine gz_iconst hC (0) dX0_firstMove_8 (by decide) ?_
  refine gz_iconst hC (0) dX0_firstMove_9 (by decide) ?_
  refine gz_callV4 hC dX0_firstMove_10 ml_X0_60 rfl rfl (by decide) (by decide) (Nat.le_of_ble_eq_true rfl) (ct_X0_value hJ d0 d1 F w hO pl own hp ho S hA 9 _ _ 0 (an_R0 d0 d1 F pl) 1056 0 0 0 (⟨xi_of hX (an_of_up (an_of_up an_of_0)), by rw [gz_up_oth (by decide), gz_up_oth (by decide)]; exact hP, by rw [gz_up_oth (by decide), gz_up_self]; exact hx1, fun k hk la hla q hq => by rw [k2 21 (by decide)]; exact hG k hk la hla q hq⟩) (by decide) (fun k _ => an_R0_b hO hp k) (fun k hk => by rw [Nat.zero_mul, Nat.zero_add]; exact k1 k hk) (by omega) (by omega) (by omega) (by decide) (by omega) (by decide) _ _ _ _ (by decide) rfl rfl rfl) (fun v10 M10 hp10 => ?_)
  obtain ⟨I1, J2, rfl, rfl, hf, hg, h5⟩ := hp10
  refine gz_pop2 hC dX0_firstMove_13 rfl ?_
  refine gz_aload_n hC dX0_firstMove_14 rfl ?_
  refine gz_getI (j := 5) hC dX0_firstMove_15 cf_X0 fl_X0_68 rfl rfl (by decide) ?_
  exact gz_iret hC dX0_firstMove_18 ⟨I1, J2, by rw [h5 h0.symm (by decide)], rfl, an_of_fr (an_of_up (an_of_up an_of_0)) hf⟩
set_option maxHeartbeats 4000000 in
set_option maxRecDepth 100000 in
theorem ct_X0_moveBehind (hJ : gz_inj ad lx_lay) (I : Nat → Nat → Int32) (G : Nat → Nat → UInt64) (d0 d1 F : Nat) (w : Bool) (hO : cf_ok d0 d1 F) (hX : xi_tab d0 d1 F w I) (pl own bb : Nat) (hp : pl < 2) (h1 : pl = 1) (ho : own < tb_n (tb_d d0 d1 pl) F) (hbb : bb < (d0 + d1) * F) (S : Nat → Nat → Nat → UInt64) (hA : an_ok (an_nO d0 d1 F pl) ((d0 + d1) * F) S) (hG : an_G S d0 d1 F pl G) (hP : I 19 3 = nI pl) (x1 x2 : Int32) (hx1 : x1 = nI own) (hx2 : x2 = nI bb) : gz_Ct l D ad cy lx_lay yX0_moveBehind cX0_moveBehind 3 (some .int) 22 [.ref (ad 19), .int x1, .int x2] (I, G) (fun v M1 => ∃ I1 G1, v = some (.int (cond (an_any (an_R S (an_R0 d0 d1 F pl) 0 (bb + 1)) (an_nO d0 d1 F pl)) (nI (an_best (an_nO d0 d1 F pl) ((d0 + d1) * F) (an_t d0 d1 F w pl own) S 8 (bb + 1) (an_R S (an_R0 d0 d1 F pl) 0 (bb + 1))) - 1) (-1))) ∧ M1 = (I1, G1) ∧ an_of I I1) := by
  have Bd := cf_bids hO
  refine gz_met (by decide +kernel) hJ (Nat.le_of_ble_eq_true rfl) ?_
  intro p e s m args below meth c hC
  refine gz_aload_n hC dX0_moveBehind_0 rfl ?_
  refine gz_iload_n hC dX0_moveBehind_1 rfl ?_
  refine gz_callV1 hC dX0_moveBehind_2 ml_X0_52 rfl rfl (by decide) (by decide) (Nat.le_of_ble_eq_true rfl) (ct_X0_hold hJ _ _ d0 d1 F w hO hX pl hp hP _) (fun v2 M2 hp2 => ?_)
  obtain ⟨J1, rfl, rfl, k1, k2⟩ := hp2
  have hW : an_w d0 d1 F w pl own S (gz_up (gz_up I 19 4 x1) 19 5 (-1)) J1 := ⟨xi_of hX (an_of_up (an_of_up an_of_0)), by rw [gz_up_oth (by decide), gz_up_oth (by decide)]; exact hP, by rw [gz_up_oth (by decide), gz_up_self]; exact hx1, fun k hk la hla q hq => by rw [k2 21 (by decide)]; exact hG k hk la hla q hq⟩
  have hx2b : x2 = nI (bb + 1) - 1 := hx2.trans (nI_pred bb).symm
  have hk1 : ∀ k, k < an_nO d0 d1 F pl → J1 22 (0 * 4 + k) = an_R0 d0 d1 F pl k := fun k hk => by rw [Nat.zero_mul, Nat.zero_add]; exact k1 k hk
  refine gz_aload_n hC dX0_moveBehind_5 rfl ?_
  refine gz_iconst hC (-1) dX0_moveBehind_6 (by decide) ?_
  refine gz_iload_n hC dX0_moveBehind_7 rfl ?_
  refine gz_iconst hC (0) dX0_moveBehind_8 (by decide) ?_
  refine gz_callV3 hC dX0_moveBehind_9 ml_X0_71 rfl rfl (by decide) (by decide) (Nat.le_of_ble_eq_true rfl) (ct_X0_follow hJ _ _ d0 d1 F w hO pl own hp ho S hA hW (an_R0 d0 d1 F pl) 1056 0 (bb + 1) 0 (by decide) (by decide) (fun k _ => an_R0_b hO hp k) hk1 (Nat.zero_le _) (by omega) (by decide) _ _ _ nM_0 hx2b rfl) (fun v9 M9 hp9 => ?_)
  obtain ⟨J2, rfl, rfl, hr2, hg2⟩ := hp9
  refine gz_if_ne hC 17 dX0_moveBehind_12 (by decide) (fun c12 => ?_) (fun c12 => ?_)
  · have hb := gz_b1 c12
    refine gz_aload_n hC dX0_moveBehind_17 rfl ?_
    refine gz_iload_n hC dX0_moveBehind_18 rfl ?_
    refine gz_iconst hC (1) dX0_moveBehind_19 (by decide) ?_
    refine gz_iconst hC (1) dX0_moveBehind_20 (by decide) ?_
    refine gz_iconst hC (1) dX0_moveBehind_21 (by decide) ?_
    refine gz_callV4 hC dX0_moveBehind_22 ml_X0_60 rfl rfl (by decide) (by decide) (Nat.le_of_ble_eq_true rfl) (ct_X0_value hJ d0 d1 F w hO pl own hp ho S hA 9 _ _ 1 (an_R S (an_R0 d0 d1 F pl) 0 (bb + 1)) 1091 (bb + 1) 1 1 (an_w_fr hW an_fr_0 hg2) (by decide) (an_R_b hA (K := 1056) (by decide) (by decide) (fun k _ => an_R0_b hO hp k) (Nat.zero_le _) (by omega)) (hr2) (by omega) (by omega) (by omega) (by decide) (by omega) (by decide) _ _ _ _ hx2b rfl rfl rfl) (fun v22 M22 hp22 => ?_)
    obtain ⟨I1, J3, rfl, rfl, hf, hg, h5⟩ := hp22
    refine gz_pop2 hC dX0_moveBehind_25 rfl ?_
    refine gz_aload_n hC dX0_moveBehind_26 rfl ?_
    refine gz_getI (j := 5) hC dX0_moveBehind_27 cf_X0 fl_X0_68 rfl rfl (by decide) ?_
    exact gz_iret hC dX0_moveBehind_30 ⟨I1, J3, by rw [h5 h1.symm (by decide), hb]; rfl, rfl, an_of_fr (an_of_up (an_of_up an_of_0)) hf⟩
  · have hb := gz_b0 c12
    refine gz_iconst hC (-1) dX0_moveBehind_15 (by decide) ?_
    exact gz_iret hC dX0_moveBehind_16 ⟨_, J2, by rw [hb]; rfl, rfl, an_of_up (an_of_up an_of_0)⟩
set_option maxHeartbeats 4000000 in
set_option maxRecDepth 100000 in
theorem ct_X0_winnings (hJ : gz_inj ad lx_lay) (I : Nat → Nat → Int32) (G : Nat → Nat → UInt64) (d0 d1 F : Nat) (w : Bool) (hO : cf_ok d0 d1 F) (hX : xi_tab d0 d1 F w I) (plan pl : Nat) (hpl : plan < 4) (hp : pl < 2) (hw : wt_ok (I 12)) (hG : an_G (an_S (I 12) d0 d1 F plan pl) d0 d1 F pl G) (hP : I 19 3 = nI pl) : gz_Ct l D ad cy lx_lay yX0_winnings cX0_winnings 5 (some .double) 22 [.ref (ad 19)] (I, G) (fun v M1 => ∃ I1 G1, v = some (.double (an_all (I 12) d0 d1 F w plan pl)) ∧ M1 = (I1, G1) ∧ an_of I I1) := by
  have Bd := cf_bids hO
  have T := tb_facts (cf_okP hO hp)
  refine gz_met (by decide +kernel) hJ (Nat.le_of_ble_eq_true rfl) ?_
  intro p e s m args below meth c hC
  refine gz_aload_n hC dX0_winnings_0 rfl ?_
  refine gz_getR (j := 0) hC dX0_winnings_1 cf_X0 fl_X0_22 rfl rfl (by decide) ?_
  refine gz_aload_n hC dX0_winnings_4 rfl ?_
  refine gz_getI (j := 3) hC dX0_winnings_5 cf_X0 fl_X0_26 rfl rfl (by decide) ?_
  refine gz_callV1 hC dX0_winnings_8 ml_X0_43 rfl rfl (by decide) (by decide) (Nat.le_of_ble_eq_true rfl) (ct_X6_cup hJ _ _ _ (3 + 4 * pl) (by rw [hP]; rcases (show pl = 0 ∨ pl = 1 by omega) with q | q <;> subst q; (exact Or.inl ⟨by decide, rfl⟩); exact Or.inr ⟨by decide, rfl⟩)) (fun v8 M8 hp8 => ?_)
  obtain ⟨rfl, rfl⟩ := hp8
  refine gz_astore_n hC dX0_winnings_11 (by decide) ?_
  refine gz_dconst0 hC dX0_winnings_12 ?_
  refine gz_dstore_n hC dX0_winnings_13 (by decide) ?_
  refine gz_iconst hC (0) dX0_winnings_14 (by decide) ?_
  refine gz_istore hC dX0_winnings_15 (by decide) ?_
  have lp : ∀ (n g : Nat) (J1 : Nat → Nat → Int32) (J2 : Nat → Nat → UInt64) (y : UInt64) (x4 : Int32) (hi : g + n = tb_n (tb_d d0 d1 pl) F) (hx4 : x4 = nI g) (hy : y = an_s (I 12) d0 d1 F w plan pl g) (hof : an_of I J1) (hP : J1 19 3 = nI pl) (hG : an_G (an_S (I 12) d0 d1 F plan pl) d0 d1 F pl J2), gz_W p l e (gz_rm 22) s m args below meth c D ad cy lx_lay 5 (MQ below (gz_Q D ad cy lx_lay (fun v M1 => ∃ I1 G1, v = some (.double (an_all (I 12) d0 d1 F w plan pl)) ∧ M1 = (I1, G1) ∧ an_of I I1)) args s 0 0 (gz_A ad lx_lay)) (J1, J2) 17 [(0, .ref (ad 19)), (1, .ref (ad (3 + 4 * pl))), (2, .double y), (4, .int x4)] [] := by
    intro n
    induction n with
    | zero =>
      intro g J1 J2 y x4 hi hx4 hy hof hP hG
      refine gz_iload hC dX0_winnings_17 rfl ?_
      refine gz_aload_n hC dX0_winnings_19 rfl ?_
      refine gz_getIN (j := 5) hC dX0_winnings_20 cf_X1 fl_X0_47 (lx_cupP hp).1 rfl (by decide) ?_
      have hq5 := xi_cupP (xi_of hX hof) hp
      refine gz_icmp_ge hC 57 dX0_winnings_23 (by decide) (fun c23 => ?_) (fun c23 => ?_)
      · refine gz_aload_n hC dX0_winnings_57 rfl ?_
        refine gz_getR (j := 0) hC dX0_winnings_58 cf_X0 fl_X0_22 rfl rfl (by decide) ?_
        refine gz_dload_n hC dX0_winnings_61 rfl ?_
        refine gz_callV1 hC dX0_winnings_62 ml_X0_64 rfl rfl (by decide) (by decide) (Nat.le_of_ble_eq_true rfl) (ct_X6_meanOf hJ _ _ d0 d1 F w hO (xi_of hX hof) _ (by rw [hy, show g = tb_n (tb_d d0 d1 pl) F by omega]; exact fp_b_n64 (an_all_b w hw hO hpl hp) (by decide))) (fun v62 M62 hp62 => ?_)
        obtain ⟨rfl, rfl⟩ := hp62
        exact gz_dret hC dX0_winnings_65 ⟨J1, J2, by rw [hy, show g = tb_n (tb_d d0 d1 pl) F by omega]; rfl, rfl, hof⟩
      · exact absurd (gz_ile hq5.2.2.1 hx4 (by omega) (by omega)) c23
    | succ n ih =>
      intro g J1 J2 y x4 hi hx4 hy hof hP hG
      refine gz_iload hC dX0_winnings_17 rfl ?_
      refine gz_aload_n hC dX0_winnings_19 rfl ?_
      refine gz_getIN (j := 5) hC dX0_winnings_20 cf_X1 fl_X0_47 (lx_cupP hp).1 rfl (by decide) ?_
      have hq5 := xi_cupP (xi_of hX hof) hp
      refine gz_icmp_ge hC 57 dX0_winnings_23 (by decide) (fun c23 => ?_) (fun c23 => ?_)
      · exact absurd c23 (gz_inle hq5.2.2.1 hx4 (by omega) (by omega))
      · refine gz_aload_n hC dX0_winnings_26 rfl ?_
        refine gz_iload hC dX0_winnings_27 rfl ?_
        refine gz_callV1 hC dX0_winnings_29 ml_X0_52 rfl rfl (by decide) (by decide) (Nat.le_of_ble_eq_true rfl) (ct_X0_hold hJ _ _ d0 d1 F w hO (xi_of hX hof) pl hp hP _) (fun v29 M29 hp29 => ?_)
        obtain ⟨J3, rfl, rfl, k1, k2⟩ := hp29
        have hof2 : an_of I (gz_up (gz_up J1 19 4 x4) 19 5 (-1)) := an_of_up (an_of_up hof)
        have hq6 := xi_cupP (xi_of hX hof2) hp
        have hW : an_w d0 d1 F w pl g (an_S (I 12) d0 d1 F plan pl) (gz_up (gz_up J1 19 4 x4) 19 5 (-1)) J3 := ⟨xi_of hX hof2, by rw [gz_up_oth (by decide), gz_up_oth (by decide)]; exact hP, by rw [gz_up_oth (by decide), gz_up_self]; exact hx4, fun k hk la hla q hq => by rw [k2 21 (by decide)]; exact hG k hk la hla q hq⟩
        refine gz_dload_n hC dX0_winnings_32 rfl ?_
        refine gz_aload_n hC dX0_winnings_33 rfl ?_
        refine gz_iload hC dX0_winnings_34 rfl ?_
        refine gz_callV1 hC dX0_winnings_36 ml_X0_56 (lx_cupP hp).1 rfl (by decide) (by decide) (Nat.le_of_ble_eq_true rfl) (ct_X1_waysOf hJ _ _ (3 + 4 * pl) (lx_cupP hp) g _ hx4 (by omega)) (fun v36 M36 hp36 => ?_)
        obtain ⟨rfl, rfl⟩ := hp36
        rw [hq6.2.2.2.2 g (by omega)]
        refine gz_i2d hC dX0_winnings_39 ?_
        refine gz_aload_n hC dX0_winnings_40 rfl ?_
        refine gz_iconst hC (-1) dX0_winnings_41 (by decide) ?_
        refine gz_iconst hC (0) dX0_winnings_42 (by decide) ?_
        refine gz_iconst hC (0) dX0_winnings_43 (by decide) ?_
        refine gz_iconst hC (0) dX0_winnings_44 (by decide) ?_
        refine gz_callV4 hC dX0_winnings_45 ml_X0_60 rfl rfl (by decide) (by decide) (Nat.le_of_ble_eq_true rfl) (ct_X0_value hJ d0 d1 F w hO pl g hp (by omega) (an_S (I 12) d0 d1 F plan pl) (an_S_ok hw hO hpl hp) 9 _ _ 0 (an_R0 d0 d1 F pl) 1056 0 0 0 hW (by decide) (fun k _ => an_R0_b hO hp k) (fun k hk => by rw [Nat.zero_mul, Nat.zero_add]; exact k1 k hk) (by omega) (by omega) (by omega) (by decide) (by omega) (by decide) _ _ _ _ (by decide) rfl rfl rfl) (fun v45 M45 hp45 => ?_)
        obtain ⟨J4, J5, rfl, rfl, hf, hg, _⟩ := hp45
        have ht := an_term_b w g hw hO hpl hp
        have ha := an_s_b w hw hO hpl hp g (by omega)
        rw [← hy] at ha
        refine gz_dmul hC dX0_winnings_48 (fp_b_n64 ht (by decide)) ?_
        refine gz_dadd hC dX0_winnings_49 (fp_b_n64 (fp_b_add ha (fp_b_mono ht (by omega)) (by omega)) (by omega)) ?_
        refine gz_dstore_n hC dX0_winnings_50 (by decide) ?_
        refine gz_iinc hC (1) dX0_winnings_51 rfl (by decide) (by decide) ?_
        refine gz_goto hC 17 dX0_winnings_54 (by decide) ?_
        refine gz_lw [(0, .ref (ad 19)), (1, .ref (ad (3 + 4 * pl))), (2, .double _), (4, .int (x4 + 1))] ⟨rfl, rfl, rfl, rfl, trivial⟩ ?_
        exact ih (g + 1) J4 J5 _ _ (by omega) (gz_i1 hx4) (by rw [hy]; rfl) (an_of_fr hof2 hf) (by rw [hf 19 3 (Or.inr (by decide)), gz_up_oth (by decide), gz_up_oth (by decide)]; exact hP) (fun k hk la hla q hq => by rw [hg 21 _ (Or.inl (by decide)), k2 21 (by decide)]; exact hG k hk la hla q hq)
  exact gz_lw [(0, .ref (ad 19)), (1, .ref (ad (3 + 4 * pl))), (2, .double 0), (4, .int 0)] ⟨rfl, rfl, rfl, rfl, trivial⟩ (lp (tb_n (tb_d d0 d1 pl) F) 0 I G 0 0 (by omega) rfl rfl an_of_0 hP hG)
  -- places not laid: [19, 20, 23, 26, 27, 29, 32, 33, 34, 36, 39, 40, 41, 42, 43, 44, 45, 48, 49, 50, 51, 54, 57, 58, 61, 62, 65]
set_option maxHeartbeats 4000000 in
set_option maxRecDepth 100000 in
theorem ct_X7_worth (hJ : gz_inj ad lx_lay) (I : Nat → Nat → Int32) (G : Nat → Nat → UInt64) (d0 d1 F : Nat) (w : Bool) (hO : cf_ok d0 d1 F) (hX : xi_tab d0 d1 F w I) (hw : wt_ok (I 12)) (a b : Int32) : gz_Ct l D ad cy lx_lay yX7_worth cX7_worth 3 (some .long) 6 [.ref (ad 0), .int a, .int b] (I, G) (fun v M1 => ∃ G1, v = some (.long (sp_wor (I 12) d0 d1 F w a b)) ∧ M1 = (I, G1)) := by
  refine gz_met (by decide +kernel) hJ (Nat.le_of_ble_eq_true rfl) ?_
  intro p e s m args below meth c hC
  refine gz_iload_n hC dX7_worth_0 rfl ?_
  refine gz_callS1 hC dX7_worth_1 ml_X7_112 (by decide) (by decide) (Nat.le_of_ble_eq_true rfl) (ct_X7_isPlan hJ _ _ _) (fun v1 M1 hp1 => ?_)
  obtain ⟨rfl, rfl⟩ := hp1
  refine gz_if_eq hC 14 dX7_worth_4 (by decide) (fun c4 => ?_) (fun c4 => ?_)
  · have q1 := gz_b0 c4
    refine gz_ldc2l hC dX7_worth_14 kc_X7_131 ?_
    exact gz_lret hC dX7_worth_17 ⟨G, by unfold sp_wor; first | (rw [q1, q2, q3]; rfl) | (rw [q1, q2]; rfl) | (rw [q1]; rfl), rfl⟩
  · have q1 := gz_b1 c4
    obtain ⟨pa, hpa, ha⟩ := gz_in_t (n := 4) (by decide) (by decide) q1
    refine gz_iload_n hC dX7_worth_7 rfl ?_
    refine gz_callS1 hC dX7_worth_8 ml_X7_112 (by decide) (by decide) (Nat.le_of_ble_eq_true rfl) (ct_X7_isPlan hJ _ _ _) (fun v8 M8 hp8 => ?_)
    obtain ⟨rfl, rfl⟩ := hp8
    refine gz_if_ne hC 18 dX7_worth_11 (by decide) (fun c11 => ?_) (fun c11 => ?_)
    · have q2 := gz_b1 c11
      obtain ⟨pb, hpb, hb⟩ := gz_in_t (n := 4) (by decide) (by decide) q2
      refine gz_aload_n hC dX7_worth_18 rfl ?_
      refine gz_getR (j := 2) hC dX7_worth_19 cf_X7 fl_X7_28 rfl rfl (by decide) ?_
      refine gz_aload_n hC dX7_worth_22 rfl ?_
      refine gz_getR (j := 1) hC dX7_worth_23 cf_X7 fl_X7_19 rfl rfl (by decide) ?_
      refine gz_iload_n hC dX7_worth_26 rfl ?_
      refine gz_iload_n hC dX7_worth_27 rfl ?_
      refine gz_callV3 hC dX7_worth_28 ml_X7_133 rfl rfl (by decide) (by decide) (Nat.le_of_ble_eq_true rfl) (ct_X3_play hJ _ _ d0 d1 F w hO hX pa pb _ _ ha hb hpa hpb hw) (fun v28 M28 hp28 => ?_)
      obtain ⟨J1, rfl, rfl, k1⟩ := hp28
      refine gz_callS1 hC dX7_worth_31 ml_X7_137 (by decide) (by decide) (Nat.le_of_ble_eq_true rfl) (ct_X7_bitsOf hJ _ _ _ (fp_b_mono (wo_all_b w hw hO hpa hpb) (by decide))) (fun v31 M31 hp31 => ?_)
      obtain ⟨rfl, rfl⟩ := hp31
      exact gz_lret hC dX7_worth_34 ⟨J1, by unfold sp_wor; rw [q1, q2, ha, hb, nI_clamp (by omega), nI_clamp (by omega)]; rfl, rfl⟩
    · have q2 := gz_b0 c11
      refine gz_ldc2l hC dX7_worth_14 kc_X7_131 ?_
      exact gz_lret hC dX7_worth_17 ⟨G, by unfold sp_wor; first | (rw [q1, q2, q3]; rfl) | (rw [q1, q2]; rfl) | (rw [q1]; rfl), rfl⟩
set_option maxHeartbeats 4000000 in
set_option maxRecDepth 100000 in
theorem ct_X7_answer (hJ : gz_inj ad lx_lay) (I : Nat → Nat → Int32) (G : Nat → Nat → UInt64) (d0 d1 F : Nat) (w : Bool) (hO : cf_ok d0 d1 F) (hX : xi_tab d0 d1 F w I) (hw : wt_ok (I 12)) (a b : Int32) : gz_Ct l D ad cy lx_lay yX7_answer cX7_answer 3 (some .long) 23 [.ref (ad 0), .int a, .int b] (I, G) (fun v M1 => ∃ I1 G1, v = some (.long (sp_ans (I 12) d0 d1 F w a b)) ∧ M1 = (I1, G1) ∧ an_of I I1) := by
  refine gz_met (by decide +kernel) hJ (Nat.le_of_ble_eq_true rfl) ?_
  intro p e s m args below meth c hC
  refine gz_iload_n hC dX7_answer_0 rfl ?_
  refine gz_callS1 hC dX7_answer_1 ml_X7_64 (by decide) (by decide) (Nat.le_of_ble_eq_true rfl) (ct_X7_isPlayer hJ _ _ _) (fun v1 M1 hp1 => ?_)
  obtain ⟨rfl, rfl⟩ := hp1
  refine gz_if_eq hC 14 dX7_answer_4 (by decide) (fun c4 => ?_) (fun c4 => ?_)
  · have q1 := gz_b0 c4
    refine gz_ldc2l hC dX7_answer_14 kc_X7_131 ?_
    exact gz_lret hC dX7_answer_17 ⟨I, G, by unfold sp_ans; first | (rw [q1, q2, q3]; rfl) | (rw [q1, q2]; rfl) | (rw [q1]; rfl), rfl, an_of_0⟩
  · have q1 := gz_b1 c4
    obtain ⟨pl, hp, ha⟩ := gz_in_2 q1
    refine gz_iload_n hC dX7_answer_7 rfl ?_
    refine gz_callS1 hC dX7_answer_8 ml_X7_112 (by decide) (by decide) (Nat.le_of_ble_eq_true rfl) (ct_X7_isPlan hJ _ _ _) (fun v8 M8 hp8 => ?_)
    obtain ⟨rfl, rfl⟩ := hp8
    refine gz_if_ne hC 18 dX7_answer_11 (by decide) (fun c11 => ?_) (fun c11 => ?_)
    · have q2 := gz_b1 c11
      obtain ⟨plan, hpl, hb⟩ := gz_in_t (n := 4) (by decide) (by decide) q2
      refine gz_aload_n hC dX7_answer_18 rfl ?_
      refine gz_getR (j := 3) hC dX7_answer_19 cf_X7 fl_X7_35 rfl rfl (by decide) ?_
      refine gz_aload_n hC dX7_answer_22 rfl ?_
      refine gz_getR (j := 1) hC dX7_answer_23 cf_X7 fl_X7_19 rfl rfl (by decide) ?_
      refine gz_iload_n hC dX7_answer_26 rfl ?_
      refine gz_iload_n hC dX7_answer_27 rfl ?_
      refine gz_callV3 hC dX7_answer_28 ml_X7_141 rfl rfl (by decide) (by decide) (Nat.le_of_ble_eq_true rfl) (ct_X0_study hJ _ _ d0 d1 F w hO hX plan pl _ _ hb ha hpl hp hw) (fun v28 M28 hp28 => ?_)
      obtain ⟨J1, rfl, rfl, k1⟩ := hp28
      have hf1 : an_of I (gz_up I 19 3 a) := an_of_up an_of_0
      have hw2 : gz_up I 19 3 a 12 = I 12 := gz_up_ne (by decide)
      refine gz_aload_n hC dX7_answer_31 rfl ?_
      refine gz_getR (j := 3) hC dX7_answer_32 cf_X7 fl_X7_35 rfl rfl (by decide) ?_
      refine gz_callV0 hC dX7_answer_35 ml_X7_145 rfl rfl (by decide) (by decide) (Nat.le_of_ble_eq_true rfl) (ct_X0_winnings hJ _ _ d0 d1 F w hO (xi_of hX hf1) plan pl hpl hp (by rw [hw2]; exact hw) (by rw [hw2]; exact k1) (by rw [gz_up_self]; exact ha)) (fun v35 M35 hp35 => ?_)
      obtain ⟨J3, J4, rfl, rfl, k2⟩ := hp35
      rw [hw2]
      refine gz_callS1 hC dX7_answer_38 ml_X7_137 (by decide) (by decide) (Nat.le_of_ble_eq_true rfl) (ct_X7_bitsOf hJ _ _ _ (fp_b_mono (an_all_b w hw hO hpl hp) (by decide))) (fun v38 M38 hp38 => ?_)
      obtain ⟨rfl, rfl⟩ := hp38
      exact gz_lret hC dX7_answer_41 ⟨J3, J4, by unfold sp_ans; rw [q1, q2, ha, hb, nI_clamp (by omega), nI_clamp (by omega)]; rfl, rfl, an_of_t hf1 k2⟩
    · have q2 := gz_b0 c11
      refine gz_ldc2l hC dX7_answer_14 kc_X7_131 ?_
      exact gz_lret hC dX7_answer_17 ⟨I, G, by unfold sp_ans; first | (rw [q1, q2, q3]; rfl) | (rw [q1, q2]; rfl) | (rw [q1]; rfl), rfl, an_of_0⟩
set_option maxHeartbeats 4000000 in
set_option maxRecDepth 100000 in
theorem ct_X7_opening (hJ : gz_inj ad lx_lay) (I : Nat → Nat → Int32) (G : Nat → Nat → UInt64) (d0 d1 F : Nat) (w : Bool) (hO : cf_ok d0 d1 F) (hX : xi_tab d0 d1 F w I) (hw : wt_ok (I 12)) (a b : Int32) : gz_Ct l D ad cy lx_lay yX7_opening cX7_opening 3 (some .int) 23 [.ref (ad 0), .int a, .int b] (I, G) (fun v M1 => ∃ I1 G1, v = some (.int (sp_open (I 12) d0 d1 F w a b)) ∧ M1 = (I1, G1) ∧ an_of I I1) := by
  refine gz_met (by decide +kernel) hJ (Nat.le_of_ble_eq_true rfl) ?_
  intro p e s m args below meth c hC
  refine gz_iload_n hC dX7_opening_0 rfl ?_
  refine gz_callS1 hC dX7_opening_1 ml_X7_112 (by decide) (by decide) (Nat.le_of_ble_eq_true rfl) (ct_X7_isPlan hJ _ _ _) (fun v1 M1 hp1 => ?_)
  obtain ⟨rfl, rfl⟩ := hp1
  refine gz_if_eq hC 16 dX7_opening_4 (by decide) (fun c4 => ?_) (fun c4 => ?_)
  · have q1 := gz_b0 c4
    refine gz_bipush hC (-100) dX7_opening_16 (by decide) ?_
    exact gz_iret hC dX7_opening_18 ⟨I, G, by unfold sp_open; first | (rw [q1, q2, q3]; rfl) | (rw [q1, q2]; rfl) | (rw [q1]; rfl), rfl, an_of_0⟩
  · have q1 := gz_b1 c4
    obtain ⟨plan, hpl, ha⟩ := gz_in_t (n := 4) (by decide) (by decide) q1
    refine gz_aload_n hC dX7_opening_7 rfl ?_
    refine gz_iconst hC (0) dX7_opening_8 (by decide) ?_
    refine gz_iload_n hC dX7_opening_9 rfl ?_
    refine gz_callV2 hC dX7_opening_10 ml_X7_77 rfl rfl (by decide) (by decide) (Nat.le_of_ble_eq_true rfl) (ct_X7_isHand hJ _ _ d0 d1 F w hO hX _ _) (fun v10 M10 hp10 => ?_)
    obtain ⟨rfl, rfl⟩ := hp10
    refine gz_if_ne hC 19 dX7_opening_13 (by decide) (fun c13 => ?_) (fun c13 => ?_)
    · have q2 := gz_b1 c13
      obtain ⟨pl, hh, hp, hk, hp0, hh0⟩ := sp_hd_t hO q2
      have hpz : pl = 0 := by rcases (show pl = 0 ∨ pl = 1 by omega) with q | q; exact q; exact absurd (hp0.trans (by rw [q])) (by decide)
      subst hpz
      have T := tb_facts (cf_okP hO hp)
      refine gz_aload_n hC dX7_opening_19 rfl ?_
      refine gz_getR (j := 3) hC dX7_opening_20 cf_X7 fl_X7_35 rfl rfl (by decide) ?_
      refine gz_aload_n hC dX7_opening_23 rfl ?_
      refine gz_getR (j := 1) hC dX7_opening_24 cf_X7 fl_X7_19 rfl rfl (by decide) ?_
      refine gz_iload_n hC dX7_opening_27 rfl ?_
      refine gz_iconst hC (0) dX7_opening_28 (by decide) ?_
      refine gz_callV3 hC dX7_opening_29 ml_X7_141 rfl rfl (by decide) (by decide) (Nat.le_of_ble_eq_true rfl) (ct_X0_study hJ _ _ d0 d1 F w hO hX plan 0 _ _ ha rfl hpl hp hw) (fun v29 M29 hp29 => ?_)
      obtain ⟨J1, rfl, rfl, k1⟩ := hp29
      have hf1 : an_of I (gz_up I 19 3 0) := an_of_up an_of_0
      refine gz_aload_n hC dX7_opening_32 rfl ?_
      refine gz_getR (j := 3) hC dX7_opening_33 cf_X7 fl_X7_35 rfl rfl (by decide) ?_
      refine gz_iload_n hC dX7_opening_36 rfl ?_
      refine gz_callV1 hC dX7_opening_37 ml_X7_149 rfl rfl (by decide) (by decide) (Nat.le_of_ble_eq_true rfl) (ct_X0_firstMove hJ _ _ d0 d1 F w hO (xi_of hX hf1) 0 hh hp rfl hk _ (an_S_ok hw hO hpl hp) k1 (by rw [gz_up_self]; rfl) _ hh0) (fun v37 M37 hp37 => ?_)
      obtain ⟨J3, J4, rfl, rfl, k2⟩ := hp37
      exact gz_iret hC dX7_opening_40 ⟨J3, J4, by unfold sp_open; rw [q1, q2, ha, hh0, nI_clamp (by omega), nI_clamp (by omega)]; rfl, rfl, an_of_t hf1 k2⟩
    · have q2 := gz_b0 c13
      refine gz_bipush hC (-100) dX7_opening_16 (by decide) ?_
      exact gz_iret hC dX7_opening_18 ⟨I, G, by unfold sp_open; first | (rw [q1, q2, q3]; rfl) | (rw [q1, q2]; rfl) | (rw [q1]; rfl), rfl, an_of_0⟩
set_option maxHeartbeats 4000000 in
set_option maxRecDepth 100000 in
theorem ct_X7_reply (hJ : gz_inj ad lx_lay) (I : Nat → Nat → Int32) (G : Nat → Nat → UInt64) (d0 d1 F : Nat) (w : Bool) (hO : cf_ok d0 d1 F) (hX : xi_tab d0 d1 F w I) (hw : wt_ok (I 12)) (a b b3 : Int32) : gz_Ct l D ad cy lx_lay yX7_reply cX7_reply 4 (some .int) 23 [.ref (ad 0), .int a, .int b, .int b3] (I, G) (fun v M1 => ∃ I1 G1, v = some (.int (sp_rep (I 12) d0 d1 F w a b b3)) ∧ M1 = (I1, G1) ∧ an_of I I1) := by
  refine gz_met (by decide +kernel) hJ (Nat.le_of_ble_eq_true rfl) ?_
  intro p e s m args below meth c hC
  refine gz_iload_n hC dX7_reply_0 rfl ?_
  refine gz_callS1 hC dX7_reply_1 ml_X7_112 (by decide) (by decide) (Nat.le_of_ble_eq_true rfl) (ct_X7_isPlan hJ _ _ _) (fun v1 M1 hp1 => ?_)
  obtain ⟨rfl, rfl⟩ := hp1
  refine gz_if_eq hC 24 dX7_reply_4 (by decide) (fun c4 => ?_) (fun c4 => ?_)
  · have q1 := gz_b0 c4
    refine gz_bipush hC (-100) dX7_reply_24 (by decide) ?_
    exact gz_iret hC dX7_reply_26 ⟨I, G, by unfold sp_rep; first | (rw [q1, q2, q3]; rfl) | (rw [q1, q2]; rfl) | (rw [q1]; rfl), rfl, an_of_0⟩
  · have q1 := gz_b1 c4
    obtain ⟨plan, hpl, ha⟩ := gz_in_t (n := 4) (by decide) (by decide) q1
    refine gz_aload_n hC dX7_reply_7 rfl ?_
    refine gz_iconst hC (1) dX7_reply_8 (by decide) ?_
    refine gz_iload_n hC dX7_reply_9 rfl ?_
    refine gz_callV2 hC dX7_reply_10 ml_X7_77 rfl rfl (by decide) (by decide) (Nat.le_of_ble_eq_true rfl) (ct_X7_isHand hJ _ _ d0 d1 F w hO hX _ _) (fun v10 M10 hp10 => ?_)
    obtain ⟨rfl, rfl⟩ := hp10
    refine gz_if_eq hC 24 dX7_reply_13 (by decide) (fun c13 => ?_) (fun c13 => ?_)
    · have q2 := gz_b0 c13
      refine gz_bipush hC (-100) dX7_reply_24 (by decide) ?_
      exact gz_iret hC dX7_reply_26 ⟨I, G, by unfold sp_rep; first | (rw [q1, q2, q3]; rfl) | (rw [q1, q2]; rfl) | (rw [q1]; rfl), rfl, an_of_0⟩
    · have q2 := gz_b1 c13
      obtain ⟨pl, hh, hp, hk, hp0, hh0⟩ := sp_hd_t hO q2
      have hpz : pl = 1 := by rcases (show pl = 0 ∨ pl = 1 by omega) with q | q; exact absurd (hp0.trans (by rw [q])) (by decide); exact q
      subst hpz
      have T := tb_facts (cf_okP hO hp)
      have Bd := cf_bids hO
      refine gz_aload_n hC dX7_reply_16 rfl ?_
      refine gz_iload_n hC dX7_reply_17 rfl ?_
      refine gz_callV1 hC dX7_reply_18 ml_X7_92 rfl rfl (by decide) (by decide) (Nat.le_of_ble_eq_true rfl) (ct_X7_isBid hJ _ _ d0 d1 F w hO hX _) (fun v18 M18 hp18 => ?_)
      obtain ⟨rfl, rfl⟩ := hp18
      refine gz_if_ne hC 27 dX7_reply_21 (by decide) (fun c21 => ?_) (fun c21 => ?_)
      · have q3 := gz_b1 c21
        obtain ⟨bb, hbb, hb0⟩ := sp_bid_t hO q3
        refine gz_aload_n hC dX7_reply_27 rfl ?_
        refine gz_getR (j := 3) hC dX7_reply_28 cf_X7 fl_X7_35 rfl rfl (by decide) ?_
        refine gz_aload_n hC dX7_reply_31 rfl ?_
        refine gz_getR (j := 1) hC dX7_reply_32 cf_X7 fl_X7_19 rfl rfl (by decide) ?_
        refine gz_iload_n hC dX7_reply_35 rfl ?_
        refine gz_iconst hC (1) dX7_reply_36 (by decide) ?_
        refine gz_callV3 hC dX7_reply_37 ml_X7_141 rfl rfl (by decide) (by decide) (Nat.le_of_ble_eq_true rfl) (ct_X0_study hJ _ _ d0 d1 F w hO hX plan 1 _ _ ha rfl hpl hp hw) (fun v37 M37 hp37 => ?_)
        obtain ⟨J1, rfl, rfl, k1⟩ := hp37
        have hf1 : an_of I (gz_up I 19 3 1) := an_of_up an_of_0
        refine gz_aload_n hC dX7_reply_40 rfl ?_
        refine gz_getR (j := 3) hC dX7_reply_41 cf_X7 fl_X7_35 rfl rfl (by decide) ?_
        refine gz_iload_n hC dX7_reply_44 rfl ?_
        refine gz_iload_n hC dX7_reply_45 rfl ?_
        refine gz_callV2 hC dX7_reply_46 ml_X7_152 rfl rfl (by decide) (by decide) (Nat.le_of_ble_eq_true rfl) (ct_X0_moveBehind hJ _ _ d0 d1 F w hO (xi_of hX hf1) 1 hh bb hp rfl hk hbb _ (an_S_ok hw hO hpl hp) k1 (by rw [gz_up_self]; rfl) _ _ hh0 hb0) (fun v46 M46 hp46 => ?_)
        obtain ⟨J3, J4, rfl, rfl, k2⟩ := hp46
        exact gz_iret hC dX7_reply_49 ⟨J3, J4, by unfold sp_rep; rw [q1, q2, q3, ha, hh0, hb0, nI_clamp (by omega), nI_clamp (by omega), nI_clamp (by omega)]; rfl, rfl, an_of_t hf1 k2⟩
      · have q3 := gz_b0 c21
        refine gz_bipush hC (-100) dX7_reply_24 (by decide) ?_
        exact gz_iret hC dX7_reply_26 ⟨I, G, by unfold sp_rep; first | (rw [q1, q2, q3]; rfl) | (rw [q1, q2]; rfl) | (rw [q1]; rfl), rfl, an_of_0⟩
end CT
