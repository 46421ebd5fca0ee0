/-! the best answer: the methods beneath -/
def an_fr (I J : Nat → Nat → Int32) : Prop := ∀ o j, o ≠ 19 ∨ j ≠ 5 → J o j = I o j
def an_gr (r : Nat) (G J : Nat → Nat → UInt64) : Prop := ∀ o j, o ≠ 22 ∨ j < r → J o j = G o j
theorem an_fr_0 {I : Nat → Nat → Int32} : an_fr I I := fun _ _ _ => rfl
theorem an_gr_0 {r : Nat} {G : Nat → Nat → UInt64} : an_gr r G G := fun _ _ _ => rfl
theorem an_fr_t {I J K : Nat → Nat → Int32} (h : an_fr I J) (k : an_fr J K) : an_fr I K := fun o j q => (k o j q).trans (h o j q)
theorem an_gr_t {r r2 : Nat} {I J K : Nat → Nat → UInt64} (h : an_gr r I J) (k : an_gr r2 J K) (hr : r ≤ r2) : an_gr r I K := fun o j q => (k o j (by omega)).trans (h o j q)
theorem an_fr_up {I J : Nat → Nat → Int32} {x : Int32} (h : an_fr I J) : an_fr I (gz_up J 19 5 x) := fun o j q => by
  by_cases e : o = 19
  · subst e
    exact (gz_up_oth (by omega)).trans (h 19 j q)
  · exact (gz_up_at e).trans (h o j q)
def an_nO (d0 d1 F pl : Nat) : Nat := tb_n (tb_d d0 d1 (1 - pl)) F
def an_w (d0 d1 F : Nat) (w : Bool) (pl own : Nat) (S : Nat → Nat → Nat → UInt64) (I : Nat → Nat → Int32) (G : Nat → Nat → UInt64) : Prop := xi_tab d0 d1 F w I ∧ I 19 3 = nI pl ∧ I 19 4 = nI own ∧ ∀ k, k < an_nO d0 d1 F pl → ∀ la, la ≤ (d0 + d1) * F → ∀ q, q ≤ (d0 + d1) * F → G 21 ((k * 9 + la) * 9 + q) = S k la q
theorem an_w_fr {d0 d1 F : Nat} {w : Bool} {pl own : Nat} {S : Nat → Nat → Nat → UInt64} {I J : Nat → Nat → Int32} {G H : Nat → Nat → UInt64} (h : an_w d0 d1 F w pl own S I G) (hf : an_fr I J) {r : Nat} (hg : an_gr r G H) : an_w d0 d1 F w pl own S J H :=
  ⟨xi_tab_fr h.1 (fun o ho => funext (fun j => hf o j (Or.inl (by omega)))), (hf 19 3 (Or.inr (by decide))).trans h.2.1, (hf 19 4 (Or.inr (by decide))).trans h.2.2.1, fun k hk la hla q hq => (hg 21 _ (Or.inl (by decide))).trans (h.2.2.2 k hk la hla q hq)⟩
def an_t (d0 d1 F : Nat) (w : Bool) (pl own la k : Nat) : Bool := tb_tf d0 d1 F w pl own k (la - 1)
section CT
variable {l : Launch} {D : va_G} {ad : Nat → Nat} {cy : Nat → ClassId}
set_option maxHeartbeats 4000000 in
set_option maxRecDepth 100000 in
theorem ct_X0_other (hJ : gz_inj ad lx_lay) (I : Nat → Nat → Int32) (G : Nat → Nat → UInt64) (d0 d1 F : Nat) (w : Bool) (hO : cf_ok d0 d1 F) (hX : xi_tab d0 d1 F w I) (pl : Nat) (hp : pl < 2) (hP : I 19 3 = nI pl) : gz_Ct l D ad cy lx_lay yX0_other cX0_other 1 (some (.object "DiceCups$Cup")) 1 [.ref (ad 19)] (I, G) (fun v M1 => v = some (.ref (ad (3 + 4 * (1 - pl)))) ∧ M1 = (I, G)) := by
  refine gz_met (by decide +kernel) hJ (Nat.le_of_ble_eq_true rfl) ?_
  intro p e s m args below meth c hC
  refine gz_aload_n hC dX0_other_0 rfl ?_
  refine gz_getR (j := 0) hC dX0_other_1 cf_X0 fl_X0_22 rfl rfl (by decide) ?_
  refine gz_iconst hC (1) dX0_other_4 (by decide) ?_
  refine gz_aload_n hC dX0_other_5 rfl ?_
  refine gz_getI (j := 3) hC dX0_other_6 cf_X0 fl_X0_26 rfl rfl (by decide) ?_
  refine gz_isub hC dX0_other_9 ?_
  refine gz_callV1 hC dX0_other_10 ml_X0_43 rfl rfl (by decide) (by decide) (Nat.le_of_ble_eq_true rfl) (ct_X6_cup hJ _ _ _ (3 + 4 * (1 - pl)) (by rw [hP]; rcases (show pl = 0 ∨ pl = 1 by omega) with q | q <;> subst q; (exact Or.inr ⟨by decide, rfl⟩); exact Or.inl ⟨by decide, rfl⟩)) (fun v10 M10 hp10 => ?_)
  obtain ⟨rfl, rfl⟩ := hp10
  exact gz_aret hC dX0_other_13 ⟨rfl, rfl⟩
set_option maxHeartbeats 4000000 in
set_option maxRecDepth 100000 in
theorem ct_X0_hold (hJ : gz_inj ad lx_lay) (I : Nat → Nat → Int32) (G : Nat → Nat → UInt64) (d0 d1 F : Nat) (w : Bool) (hO : cf_ok d0 d1 F) (hX : xi_tab d0 d1 F w I) (pl : Nat) (hp : pl < 2) (hP : I 19 3 = nI pl) (x1 : Int32) : gz_Ct l D ad cy lx_lay yX0_hold cX0_hold 4 none 2 [.ref (ad 19), .int x1] (I, G) (fun v M1 => ∃ G1, v = none ∧ M1 = (gz_up (gz_up I 19 4 x1) 19 5 (-1), G1) ∧ (∀ k, k < an_nO d0 d1 F pl → G1 22 k = FP.i2d (nI (tb_w (tb_d d0 d1 (1 - pl)) F k))) ∧ ∀ o, o ≠ 22 → G1 o = G o) := by
  have hX2 : xi_tab d0 d1 F w (gz_up (gz_up I 19 4 x1) 19 5 (-1)) := xi_tab_fr hX (fun o h => by rw [gz_up_ne (by omega), gz_up_ne (by omega)])
  have hc := lx_cupP (pl := 1 - pl) (by omega)
  have hq := xi_cupP hX2 (pl := 1 - pl) (by omega)
  obtain ⟨T1, T2, T3, T4, T5, T6, T7, T8, T9⟩ := tb_facts (cf_okP hO (pl := 1 - pl) (by omega))
  refine gz_met (by decide +kernel) hJ (Nat.le_of_ble_eq_true rfl) ?_
  intro p e s m args below meth c hC
  refine gz_aload_n hC dX0_hold_0 rfl ?_
  refine gz_iload_n hC dX0_hold_1 rfl ?_
  refine gz_put (j := 4) hC dX0_hold_2 cf_X0 fl_X0_75 rfl rfl (by decide) rfl rfl rfl ?_
  refine gz_aload_n hC dX0_hold_5 rfl ?_
  refine gz_iconst hC (-1) dX0_hold_6 (by decide) ?_
  refine gz_put (j := 5) hC dX0_hold_7 cf_X0 fl_X0_68 rfl rfl (by decide) rfl rfl rfl ?_
  refine gz_aload_n hC dX0_hold_10 rfl ?_
  refine gz_callV0 hC dX0_hold_11 ml_X0_30 rfl rfl (by decide) (by decide) (Nat.le_of_ble_eq_true rfl) (ct_X0_other hJ _ _ d0 d1 F w hO hX2 pl hp (by rw [gz_up_oth (by decide), gz_up_oth (by decide), hP])) (fun v11 M11 hp11 => ?_)
  obtain ⟨rfl, rfl⟩ := hp11
  refine gz_astore_n hC dX0_hold_14 (by decide) ?_
  refine gz_iconst hC (0) dX0_hold_15 (by decide) ?_
  refine gz_istore_n hC dX0_hold_16 (by decide) ?_
  have lp : ∀ (n k : Nat) (J : Nat → Nat → UInt64) (x3 : Int32) (hi : k + n = an_nO d0 d1 F pl) (hx3 : x3 = nI k) (hd : ∀ k2, k2 < k → J 22 k2 = FP.i2d (nI (tb_w (tb_d d0 d1 (1 - pl)) F k2))) (hg : ∀ o, o ≠ 22 → J o = G o), gz_W p l e (gz_rm 2) s m args below meth c D ad cy lx_lay 4 (MQ below (gz_Q D ad cy lx_lay (fun v M1 => ∃ G1, v = none ∧ M1 = (gz_up (gz_up I 19 4 x1) 19 5 (-1), G1) ∧ (∀ k, k < an_nO d0 d1 F pl → G1 22 k = FP.i2d (nI (tb_w (tb_d d0 d1 (1 - pl)) F k))) ∧ ∀ o, o ≠ 22 → G1 o = G o)) args s 0 0 (gz_A ad lx_lay)) (gz_up (gz_up I 19 4 x1) 19 5 (-1), J) 17 [(0, .ref (ad 19)), (1, .int x1), (2, .ref (ad (3 + 4 * (1 - pl)))), (3, .int x3)] [] := by
    intro n
    induction n with
    | zero =>
      intro k J x3 hi hx3 hd hg
      refine gz_iload_n hC dX0_hold_17 rfl ?_
      refine gz_aload_n hC dX0_hold_18 rfl ?_
      refine gz_getIN (j := 5) hC dX0_hold_19 cf_X1 fl_X0_47 hc.1 rfl (by decide) ?_
      refine gz_icmp_ge hC 45 dX0_hold_22 (by decide) (fun c22 => ?_) (fun c22 => ?_)
      · exact gz_vret hC dX0_hold_45 ⟨J, rfl, rfl, fun k2 hk2 => hd k2 (by omega), hg⟩
      · exact absurd (gz_ile hq.2.2.1 hx3 (by unfold an_nO at hi; omega) (by unfold an_nO at hi; omega)) c22
    | succ n ih =>
      intro k J x3 hi hx3 hd hg
      refine gz_iload_n hC dX0_hold_17 rfl ?_
      refine gz_aload_n hC dX0_hold_18 rfl ?_
      refine gz_getIN (j := 5) hC dX0_hold_19 cf_X1 fl_X0_47 hc.1 rfl (by decide) ?_
      refine gz_icmp_ge hC 45 dX0_hold_22 (by decide) (fun c22 => ?_) (fun c22 => ?_)
      · exact absurd c22 (gz_inle hq.2.2.1 hx3 (by unfold an_nO at hi; omega) (by unfold an_nO at hi; omega))
      · refine gz_aload_n hC dX0_hold_25 rfl ?_
        refine gz_getR (j := 2) hC dX0_hold_26 cf_X0 fl_X0_18 rfl rfl (by decide) ?_
        refine gz_iload_n hC dX0_hold_29 rfl ?_
        refine gz_aload_n hC dX0_hold_30 rfl ?_
        refine gz_iload_n hC dX0_hold_31 rfl ?_
        refine gz_callV1 hC dX0_hold_32 ml_X0_56 hc.1 rfl (by decide) (by decide) (Nat.le_of_ble_eq_true rfl) (ct_X1_waysOf hJ _ _ (3 + 4 * (1 - pl)) hc k _ hx3 (by unfold an_nO at hi; omega)) (fun v32 M32 hp32 => ?_)
        obtain ⟨rfl, rfl⟩ := hp32
        rw [hq.2.2.2.2 k (by unfold an_nO at hi; omega)]
        refine gz_i2d hC dX0_hold_35 ?_
        refine gz_callSN3 hC dX0_hold_36 ml_X0_78 (by decide) (by decide) (Nat.le_of_ble_eq_true rfl) (ct_X7_putReal hJ _ _ 22 40 k rfl (by decide) _ _ hx3 (by unfold an_nO at hi; omega)) (fun v36 M36 hp36 => ?_)
        obtain ⟨rfl, rfl⟩ := hp36
        refine gz_iinc hC (1) dX0_hold_39 rfl (by decide) (by decide) ?_
        refine gz_goto hC 17 dX0_hold_42 (by decide) ?_
        refine gz_lw [(0, .ref (ad 19)), (1, .int x1), (2, .ref (ad (3 + 4 * (1 - pl)))), (3, .int (x3 + 1))] ⟨rfl, rfl, rfl, rfl, trivial⟩ ?_
        exact ih (k + 1) _ _ (by omega) (gz_i1 hx3) (fun k2 hk2 => by by_cases e : k2 = k; (subst e; exact gz_up_self); exact (gz_up_oth e).trans (hd k2 (by omega))) (fun o h1 => (gz_up_ne h1).trans (hg o h1))
  exact gz_lw [(0, .ref (ad 19)), (1, .int x1), (2, .ref (ad (3 + 4 * (1 - pl)))), (3, .int 0)] ⟨rfl, rfl, rfl, rfl, trivial⟩ (lp (an_nO d0 d1 F pl) 0 G 0 (by omega) rfl (fun k2 h => absurd h (Nat.not_lt_zero k2)) (fun _ _ => rfl))
  -- places not laid: [18, 19, 22, 25, 26, 29, 30, 31, 32, 35, 36, 39, 42, 45]
set_option maxHeartbeats 4000000 in
set_option maxRecDepth 100000 in
theorem ct_X0_follow (hJ : gz_inj ad lx_lay) (I : Nat → Nat → Int32) (G : Nat → Nat → UInt64) (d0 d1 F : Nat) (w : Bool) (hO : cf_ok d0 d1 F) (pl own : Nat) (hp : pl < 2) (ho : own < tb_n (tb_d d0 d1 pl) F) (S : Nat → Nat → Nat → UInt64) (hA : an_ok (an_nO d0 d1 F pl) ((d0 + d1) * F) S) (hX : an_w d0 d1 F w pl own S I G) (R : Nat → UInt64) (K la q row : Nat) (hK : 1024 ≤ K) (hK2 : K ≤ 1990) (hRb : ∀ k, k < an_nO d0 d1 F pl → fp_b K (R k)) (hR : ∀ k, k < an_nO d0 d1 F pl → G 22 (row * 4 + k) = R k) (hla : la ≤ (d0 + d1) * F) (hq : q ≤ (d0 + d1) * F) (hrow : row ≤ 8) (x1 x2 x3 : Int32) (hx1 : x1 = nI la - 1) (hx2 : x2 = nI q - 1) (hx3 : x3 = nI row) : gz_Ct l D ad cy lx_lay yX0_follow cX0_follow 9 (some .boolean) 2 [.ref (ad 19), .int x1, .int x2, .int x3] (I, G) (fun v M1 => ∃ G1, v = some (.int (gz_b (an_any (an_R S R la q) (an_nO d0 d1 F pl)))) ∧ M1 = (I, G1) ∧ (∀ k, k < an_nO d0 d1 F pl → G1 22 ((row + 1) * 4 + k) = an_R S R la q k) ∧ an_gr (4 * (row + 1)) G G1) := by
  have hq5 := xi_cupP hX.1 (pl := 1 - pl) (by omega)
  have hc := lx_cupP (pl := 1 - pl) (by omega)
  have hn4 := hA.1
  have hb8 := hA.2.1
  refine gz_met (by decide +kernel) hJ (Nat.le_of_ble_eq_true rfl) ?_
  intro p e s m args below meth c hC
  refine gz_iconst hC (0) dX0_follow_0 (by decide) ?_
  refine gz_istore hC dX0_follow_1 (by decide) ?_
  refine gz_aload_n hC dX0_follow_3 rfl ?_
  refine gz_callV0 hC dX0_follow_4 ml_X0_30 rfl rfl (by decide) (by decide) (Nat.le_of_ble_eq_true rfl) (ct_X0_other hJ _ _ d0 d1 F w hO hX.1 pl hp hX.2.1) (fun v4 M4 hp4 => ?_)
  obtain ⟨rfl, rfl⟩ := hp4
  refine gz_getIN (j := 5) hC dX0_follow_7 cf_X1 fl_X0_47 hc.1 rfl (by decide) ?_
  refine gz_istore hC dX0_follow_10 (by decide) ?_
  refine gz_iconst hC (0) dX0_follow_12 (by decide) ?_
  refine gz_istore hC dX0_follow_13 (by decide) ?_
  obtain ⟨x5, hx5e⟩ : ∃ z, z = I (3 + 4 * (1 - pl)) 5 := ⟨_, rfl⟩
  have hx5 : x5 = nI (an_nO d0 d1 F pl) := hx5e.trans hq5.2.2.1
  rw [← hx5e]
  have lp : ∀ (n k : Nat) (J : Nat → Nat → UInt64) (x4 x6 : Int32) (hi : k + n = an_nO d0 d1 F pl) (hx6 : x6 = nI k) (hx4 : x4 = gz_b (an_any (an_R S R la q) k)) (hd : ∀ k2, k2 < k → J 22 ((row + 1) * 4 + k2) = an_R S R la q k2) (hg : an_gr (4 * (row + 1)) G J), gz_W p l e (gz_rm 2) s m args below meth c D ad cy lx_lay 9 (MQ below (gz_Q D ad cy lx_lay (fun v M1 => ∃ G1, v = some (.int (gz_b (an_any (an_R S R la q) (an_nO d0 d1 F pl)))) ∧ M1 = (I, G1) ∧ (∀ k, k < an_nO d0 d1 F pl → G1 22 ((row + 1) * 4 + k) = an_R S R la q k) ∧ an_gr (4 * (row + 1)) G G1)) args s 0 0 (gz_A ad lx_lay)) (I, J) 15 [(0, .ref (ad 19)), (1, .int x1), (2, .int x2), (3, .int x3), (4, .int x4), (5, .int x5), (6, .int x6)] [] := by
    intro n
    induction n with
    | zero =>
      intro k J x4 x6 hi hx6 hx4 hd hg
      refine gz_iload hC dX0_follow_15 rfl ?_
      refine gz_iload hC dX0_follow_17 rfl ?_
      refine gz_icmp_ge hC 82 dX0_follow_19 (by decide) (fun c19 => ?_) (fun c19 => ?_)
      · refine gz_iload hC dX0_follow_82 rfl ?_
        exact gz_zret (by rw [hx4]; exact gz_bn _) hC dX0_follow_84 ⟨J, by rw [hx4, show k = an_nO d0 d1 F pl by omega], rfl, fun k2 hk2 => hd k2 (by omega), hg⟩
      · exact absurd (gz_ile hx5 hx6 (by omega) (by omega)) c19
    | succ n ih =>
      intro k J x4 x6 hi hx6 hx4 hd hg
      refine gz_iload hC dX0_follow_15 rfl ?_
      refine gz_iload hC dX0_follow_17 rfl ?_
      refine gz_icmp_ge hC 82 dX0_follow_19 (by decide) (fun c19 => ?_) (fun c19 => ?_)
      · exact absurd c19 (gz_inle hx5 hx6 (by omega) (by omega))
      · refine gz_aload_n hC dX0_follow_22 rfl ?_
        refine gz_getR (j := 2) hC dX0_follow_23 cf_X0 fl_X0_18 rfl rfl (by decide) ?_
        refine gz_iload_n hC dX0_follow_26 rfl ?_
        refine gz_iconst hC (4) dX0_follow_27 (by decide) ?_
        refine gz_imul hC dX0_follow_28 ?_
        refine gz_iload hC dX0_follow_29 rfl ?_
        refine gz_iadd hC dX0_follow_31 ?_
        refine gz_callSN2 hC dX0_follow_32 ml_X0_93 (by decide) (by decide) (Nat.le_of_ble_eq_true rfl) (ct_X7_realAt hJ _ _ 22 40 (row * 4 + k) rfl (by decide) _ (by rw [hx3, hx6, gz_n4, pk_mul, nI_add]) (by omega)) (fun v32 M32 hp32 => ?_)
        obtain ⟨rfl, rfl⟩ := hp32
        rw [show J 22 (row * 4 + k) = R k from (hg 22 (row * 4 + k) (Or.inr (by omega))).trans (hR k (by omega))]
        refine gz_aload_n hC dX0_follow_35 rfl ?_
        refine gz_getR (j := 1) hC dX0_follow_36 cf_X0 fl_X0_12 rfl rfl (by decide) ?_
        refine gz_iload hC dX0_follow_39 rfl ?_
        refine gz_iload_n hC dX0_follow_41 rfl ?_
        refine gz_iload_n hC dX0_follow_42 rfl ?_
        refine gz_callV3 hC dX0_follow_43 ml_X0_97 rfl rfl (by decide) (by decide) (Nat.le_of_ble_eq_true rfl) (ct_X5_of hJ _ _ 20 lx_sh20 k la q _ _ _ hx6 hx1 hx2 (by omega) (by omega) (by omega)) (fun v43 M43 hp43 => ?_)
        obtain ⟨rfl, rfl⟩ := hp43
        rw [show J (20 + 1) ((k * 9 + la) * 9 + q) = S k la q from (hg 21 _ (Or.inl (by decide))).trans (hX.2.2.2 k (by omega) la hla q hq)]
        have hb := an_R_b hA hK (by omega) hRb hla hq k (by omega)
        have hb2 : vf_n64 (FP.dmul (R k) (S k la q)) := fp_b_n64 hb (by omega)
        refine gz_dmul hC dX0_follow_46 hb2 ?_
        refine gz_dstore hC dX0_follow_47 (by decide) ?_
        refine gz_aload_n hC dX0_follow_49 rfl ?_
        refine gz_getR (j := 2) hC dX0_follow_50 cf_X0 fl_X0_18 rfl rfl (by decide) ?_
        refine gz_iload_n hC dX0_follow_53 rfl ?_
        refine gz_iconst hC (1) dX0_follow_54 (by decide) ?_
        refine gz_iadd hC dX0_follow_55 ?_
        refine gz_iconst hC (4) dX0_follow_56 (by decide) ?_
        refine gz_imul hC dX0_follow_57 ?_
        refine gz_iload hC dX0_follow_58 rfl ?_
        refine gz_iadd hC dX0_follow_60 ?_
        refine gz_dload hC dX0_follow_61 rfl ?_
        refine gz_callSN3 hC dX0_follow_63 ml_X0_78 (by decide) (by decide) (Nat.le_of_ble_eq_true rfl) (ct_X7_putReal hJ _ _ 22 40 ((row + 1) * 4 + k) rfl (by decide) _ _ (by rw [hx3, hx6, gz_n4, show (1 : Int32) = nI 1 from rfl, nI_add, pk_mul, nI_add]) (by omega)) (fun v63 M63 hp63 => ?_)
        obtain ⟨rfl, rfl⟩ := hp63
        refine gz_dload hC dX0_follow_66 rfl ?_
        refine gz_dconst0 hC dX0_follow_68 ?_
        refine gz_dcmp hC dX0_follow_69 ?_
        refine gz_if_le hC 76 dX0_follow_70 (by decide) (fun c70 => ?_) (fun c70 => ?_)
        · have hv : fp_pos (an_R S R la q k) = false := fp_leF c70
          refine gz_iinc hC (1) dX0_follow_76 rfl (by decide) (by decide) ?_
          refine gz_goto hC 15 dX0_follow_79 (by decide) ?_
          first
            | (have hv1 : fp_pos (an_R S R la q k) = false := hv
               refine gz_lw [(0, .ref (ad 19)), (1, .int x1), (2, .int x2), (3, .int x3), (4, .int _), (5, .int x5), (6, .int (x6 + 1))] ⟨rfl, rfl, rfl, rfl, rfl, rfl, rfl, trivial⟩ ?_
               exact ih (k + 1) _ _ _ (by omega) (gz_i1 hx6) (by rw [hx4, an_any_pos, hv1, Bool.or_false]) (fun k2 hk2 => by by_cases e : k2 = k; (subst e; exact gz_up_self); exact (gz_up_oth (by omega)).trans (hd k2 (by omega))) (fun o j h1 => by by_cases e : o = 22; (subst e; exact (gz_up_oth (by omega)).trans (hg 22 j h1)); exact (gz_up_at e).trans (hg o j h1))
               done)
            | (have hv1 : fp_pos (an_R S R la q k) = true := hv
               refine gz_lw [(0, .ref (ad 19)), (1, .int x1), (2, .int x2), (3, .int x3), (4, .int _), (5, .int x5), (6, .int (x6 + 1))] ⟨rfl, rfl, rfl, rfl, rfl, rfl, rfl, trivial⟩ ?_
               exact ih (k + 1) _ _ _ (by omega) (gz_i1 hx6) (by rw [an_any_pos, hv1, Bool.or_true]; rfl) (fun k2 hk2 => by by_cases e : k2 = k; (subst e; exact gz_up_self); exact (gz_up_oth (by omega)).trans (hd k2 (by omega))) (fun o j h1 => by by_cases e : o = 22; (subst e; exact (gz_up_oth (by omega)).trans (hg 22 j h1)); exact (gz_up_at e).trans (hg o j h1))
               done)
        · have hv : fp_pos (an_R S R la q k) = true := fp_leT c70
          refine gz_iconst hC (1) dX0_follow_73 (by decide) ?_
          refine gz_istore hC dX0_follow_74 (by decide) ?_
          refine gz_iinc hC (1) dX0_follow_76 rfl (by decide) (by decide) ?_
          refine gz_goto hC 15 dX0_follow_79 (by decide) ?_
          first
            | (have hv1 : fp_pos (an_R S R la q k) = false := hv
               refine gz_lw [(0, .ref (ad 19)), (1, .int x1), (2, .int x2), (3, .int x3), (4, .int _), (5, .int x5), (6, .int (x6 + 1))] ⟨rfl, rfl, rfl, rfl, rfl, rfl, rfl, trivial⟩ ?_
               exact ih (k + 1) _ _ _ (by omega) (gz_i1 hx6) (by rw [hx4, an_any_pos, hv1, Bool.or_false]) (fun k2 hk2 => by by_cases e : k2 = k; (subst e; exact gz_up_self); exact (gz_up_oth (by omega)).trans (hd k2 (by omega))) (fun o j h1 => by by_cases e : o = 22; (subst e; exact (gz_up_oth (by omega)).trans (hg 22 j h1)); exact (gz_up_at e).trans (hg o j h1))
               done)
            | (have hv1 : fp_pos (an_R S R la q k) = true := hv
               refine gz_lw [(0, .ref (ad 19)), (1, .int x1), (2, .int x2), (3, .int x3), (4, .int _), (5, .int x5), (6, .int (x6 + 1))] ⟨rfl, rfl, rfl, rfl, rfl, rfl, rfl, trivial⟩ ?_
               exact ih (k + 1) _ _ _ (by omega) (gz_i1 hx6) (by rw [an_any_pos, hv1, Bool.or_true]; rfl) (fun k2 hk2 => by by_cases e : k2 = k; (subst e; exact gz_up_self); exact (gz_up_oth (by omega)).trans (hd k2 (by omega))) (fun o j h1 => by by_cases e : o = 22; (subst e; exact (gz_up_oth (by omega)).trans (hg 22 j h1)); exact (gz_up_at e).trans (hg o j h1))
               done)
  exact gz_lw [(0, .ref (ad 19)), (1, .int x1), (2, .int x2), (3, .int x3), (4, .int 0), (5, .int x5), (6, .int 0)] ⟨rfl, rfl, rfl, rfl, rfl, rfl, rfl, trivial⟩ (lp (an_nO d0 d1 F pl) 0 G 0 0 (by omega) rfl rfl (fun k2 h => absurd h (Nat.not_lt_zero k2)) an_gr_0)
  -- places not laid: [17, 19, 22, 23, 26, 27, 28, 29, 31, 32, 35, 36, 39, 41, 42, 43, 46, 47, 49, 50, 53, 54, 55, 56, 57, 58, 60, 61, 63, 66, 68, 69, 70, 73, 74, 76, 79, 82, 84]
set_option maxHeartbeats 4000000 in
set_option maxRecDepth 100000 in
theorem ct_X0_addCallWins (hJ : gz_inj ad lx_lay) (I : Nat → Nat → Int32) (G : Nat → Nat → UInt64) (d0 d1 F : Nat) (w : Bool) (hO : cf_ok d0 d1 F) (pl own : Nat) (hp : pl < 2) (ho : own < tb_n (tb_d d0 d1 pl) F) (S : Nat → Nat → Nat → UInt64) (hA : an_ok (an_nO d0 d1 F pl) ((d0 + d1) * F) S) (hX : an_w d0 d1 F w pl own S I G) (R : Nat → UInt64) (K la row cl : Nat) (y : UInt64) (hK : 1024 ≤ K) (hK2 : K ≤ 2030) (hy : fp_b K y) (hRb : ∀ k, k < an_nO d0 d1 F pl → fp_b K (R k)) (hR : ∀ k, k < an_nO d0 d1 F pl → G 22 (row * 4 + k) = R k) (hla1 : 1 ≤ la) (hla : la ≤ (d0 + d1) * F) (hrow : row ≤ 9) (hcl : cl < 2) (x3 x4 x5 : Int32) (hx3 : x3 = nI cl) (hx4 : x4 = nI la - 1) (hx5 : x5 = nI row) : gz_Ct l D ad cy lx_lay yX0_addCallWins cX0_addCallWins 10 (some .double) 3 [.ref (ad 19), .double y, .int x3, .int x4, .int x5] (I, G) (fun v M1 => v = some (.double (an_cs (fun k => decide (cl = pl) != an_t d0 d1 F w pl own la k) R y (an_nO d0 d1 F pl))) ∧ M1 = (I, G)) := by
  have hq5 := xi_cupP hX.1 (pl := 1 - pl) (by omega)
  have hc := lx_cupP (pl := 1 - pl) (by omega)
  have hn4 := hA.1
  have hb8 := hA.2.1
  refine gz_met (by decide +kernel) hJ (Nat.le_of_ble_eq_true rfl) ?_
  intro p e s m args below meth c hC
  refine gz_dload_n hC dX0_addCallWins_0 rfl ?_
  refine gz_dstore hC dX0_addCallWins_1 (by decide) ?_
  refine gz_aload_n hC dX0_addCallWins_3 rfl ?_
  refine gz_callV0 hC dX0_addCallWins_4 ml_X0_30 rfl rfl (by decide) (by decide) (Nat.le_of_ble_eq_true rfl) (ct_X0_other hJ _ _ d0 d1 F w hO hX.1 pl hp hX.2.1) (fun v4 M4 hp4 => ?_)
  obtain ⟨rfl, rfl⟩ := hp4
  refine gz_getIN (j := 5) hC dX0_addCallWins_7 cf_X1 fl_X0_47 hc.1 rfl (by decide) ?_
  refine gz_istore hC dX0_addCallWins_10 (by decide) ?_
  refine gz_iconst hC (0) dX0_addCallWins_12 (by decide) ?_
  refine gz_istore hC dX0_addCallWins_13 (by decide) ?_
  obtain ⟨x8, hx8e⟩ : ∃ z, z = I (3 + 4 * (1 - pl)) 5 := ⟨_, rfl⟩
  have hx8 : x8 = nI (an_nO d0 d1 F pl) := hx8e.trans hq5.2.2.1
  rw [← hx8e]
  have lp : ∀ (n k : Nat) (z : UInt64) (x9 : Int32) (hi : k + n = an_nO d0 d1 F pl) (hx9 : x9 = nI k) (hz : z = an_cs (fun k => decide (cl = pl) != an_t d0 d1 F w pl own la k) R y k), gz_W p l e (gz_rm 3) s m args below meth c D ad cy lx_lay 10 (MQ below (gz_Q D ad cy lx_lay (fun v M1 => v = some (.double (an_cs (fun k => decide (cl = pl) != an_t d0 d1 F w pl own la k) R y (an_nO d0 d1 F pl))) ∧ M1 = (I, G))) args s 0 0 (gz_A ad lx_lay)) (I, G) 15 [(0, .ref (ad 19)), (1, .double y), (3, .int x3), (4, .int x4), (5, .int x5), (6, .double z), (8, .int x8), (9, .int x9)] [] := by
    intro n
    induction n with
    | zero =>
      intro k z x9 hi hx9 hz
      refine gz_iload hC dX0_addCallWins_15 rfl ?_
      refine gz_iload hC dX0_addCallWins_17 rfl ?_
      refine gz_icmp_ge hC 82 dX0_addCallWins_19 (by decide) (fun c19 => ?_) (fun c19 => ?_)
      · refine gz_dload hC dX0_addCallWins_82 rfl ?_
        exact gz_dret hC dX0_addCallWins_84 ⟨by rw [hz, show k = an_nO d0 d1 F pl by omega], rfl⟩
      · exact absurd (gz_ile hx8 hx9 (by omega) (by omega)) c19
    | succ n ih =>
      intro k z x9 hi hx9 hz
      refine gz_iload hC dX0_addCallWins_15 rfl ?_
      refine gz_iload hC dX0_addCallWins_17 rfl ?_
      refine gz_icmp_ge hC 82 dX0_addCallWins_19 (by decide) (fun c19 => ?_) (fun c19 => ?_)
      · exact absurd c19 (gz_inle hx8 hx9 (by omega) (by omega))
      · refine gz_iload_n hC dX0_addCallWins_22 rfl ?_
        refine gz_aload_n hC dX0_addCallWins_23 rfl ?_
        refine gz_getI (j := 3) hC dX0_addCallWins_24 cf_X0 fl_X0_26 rfl rfl (by decide) ?_
        refine gz_icmp_ne hC 34 dX0_addCallWins_27 (by decide) (fun c27 => ?_) (fun c27 => ?_)
        · have hcl : decide (cl = pl) = false := decide_eq_false (fun q => c27 (by rw [hx3, hX.2.1, q]))
          refine gz_iconst hC (0) dX0_addCallWins_34 (by decide) ?_
          refine gz_aload_n hC dX0_addCallWins_35 rfl ?_
          refine gz_getR (j := 0) hC dX0_addCallWins_36 cf_X0 fl_X0_22 rfl rfl (by decide) ?_
          refine gz_aload_n hC dX0_addCallWins_39 rfl ?_
          refine gz_getI (j := 3) hC dX0_addCallWins_40 cf_X0 fl_X0_26 rfl rfl (by decide) ?_
          refine gz_aload_n hC dX0_addCallWins_43 rfl ?_
          refine gz_getI (j := 4) hC dX0_addCallWins_44 cf_X0 fl_X0_75 rfl rfl (by decide) ?_
          refine gz_iload hC dX0_addCallWins_47 rfl ?_
          refine gz_iload hC dX0_addCallWins_49 rfl ?_
          refine gz_callV4 hC dX0_addCallWins_51 ml_X0_100 rfl rfl (by decide) (by decide) (Nat.le_of_ble_eq_true rfl) (ct_X6_isTrueFor hJ _ _ d0 d1 F w hO hX.1 pl own k (la - 1) _ _ _ _ hp hX.2.1 hX.2.2.1 hx9 (by rw [hx4]; exact pk_sub (b := 1) (by omega)) ho (by unfold an_nO at hi; omega) (by omega)) (fun v51 M51 hp51 => ?_)
          obtain ⟨rfl, rfl⟩ := hp51
          refine gz_icmp_eq hC 76 dX0_addCallWins_54 (by decide) (fun c54 => ?_) (fun c54 => ?_)
          · have hv : (decide (cl = pl) != an_t d0 d1 F w pl own la k) = false := by
              rw [hcl]
              show (_ != tb_tf d0 d1 F w pl own k (la - 1)) = false
              cases e : tb_tf d0 d1 F w pl own k (la - 1) <;> rw [e] at c54 <;> first | rfl | exact absurd c54 (by decide)
            refine gz_iinc hC (1) dX0_addCallWins_76 rfl (by decide) (by decide) ?_
            refine gz_goto hC 15 dX0_addCallWins_79 (by decide) ?_
            first
              | (have hv1 : (decide (cl = pl) != an_t d0 d1 F w pl own la k) = true := hv
                 refine gz_lw [(0, .ref (ad 19)), (1, .double y), (3, .int x3), (4, .int x4), (5, .int x5), (6, .double (FP.dadd z (R k))), (8, .int x8), (9, .int (x9 + 1))] ⟨rfl, rfl, rfl, rfl, rfl, rfl, rfl, rfl, trivial⟩ ?_
                 exact ih (k + 1) _ _ (by omega) (gz_i1 hx9) (by rw [hz]; show _ = cond (decide (cl = pl) != an_t d0 d1 F w pl own la k) _ _; rw [hv1]; rfl)
                 done)
              | (have hv1 : (decide (cl = pl) != an_t d0 d1 F w pl own la k) = false := hv
                 refine gz_lw [(0, .ref (ad 19)), (1, .double y), (3, .int x3), (4, .int x4), (5, .int x5), (6, .double z), (8, .int x8), (9, .int (x9 + 1))] ⟨rfl, rfl, rfl, rfl, rfl, rfl, rfl, rfl, trivial⟩ ?_
                 exact ih (k + 1) _ _ (by omega) (gz_i1 hx9) (by rw [hz]; show _ = cond (decide (cl = pl) != an_t d0 d1 F w pl own la k) _ _; rw [hv1]; rfl)
                 done)
          · have hv : (decide (cl = pl) != an_t d0 d1 F w pl own la k) = true := by
              rw [hcl]
              show (_ != tb_tf d0 d1 F w pl own k (la - 1)) = true
              cases e : tb_tf d0 d1 F w pl own k (la - 1) <;> rw [e] at c54 <;> first | rfl | exact absurd (by decide) c54
            refine gz_dload hC dX0_addCallWins_57 rfl ?_
            refine gz_aload_n hC dX0_addCallWins_59 rfl ?_
            refine gz_getR (j := 2) hC dX0_addCallWins_60 cf_X0 fl_X0_18 rfl rfl (by decide) ?_
            refine gz_iload hC dX0_addCallWins_63 rfl ?_
            refine gz_iconst hC (4) dX0_addCallWins_65 (by decide) ?_
            refine gz_imul hC dX0_addCallWins_66 ?_
            refine gz_iload hC dX0_addCallWins_67 rfl ?_
            refine gz_iadd hC dX0_addCallWins_69 ?_
            refine gz_callSN2 hC dX0_addCallWins_70 ml_X0_93 (by decide) (by decide) (Nat.le_of_ble_eq_true rfl) (ct_X7_realAt hJ _ _ 22 40 (row * 4 + k) rfl (by decide) _ (by rw [hx5, hx9, gz_n4, pk_mul, nI_add]) (by omega)) (fun v70 M70 hp70 => ?_)
            obtain ⟨rfl, rfl⟩ := hp70
            rw [hR k (by omega)]
            have hacc := an_cs_b (t := (fun k => decide (cl = pl) != an_t d0 d1 F w pl own la k)) (R := R) hy k (fun k2 hk2 => hRb k2 (by omega)) (by omega)
            rw [← hz] at hacc
            refine gz_dadd hC dX0_addCallWins_73 (fp_b_n64 (fp_b_add hacc (fp_b_mono (hRb k (by omega)) (by omega)) (by omega)) (by omega)) ?_
            refine gz_dstore hC dX0_addCallWins_74 (by decide) ?_
            refine gz_iinc hC (1) dX0_addCallWins_76 rfl (by decide) (by decide) ?_
            refine gz_goto hC 15 dX0_addCallWins_79 (by decide) ?_
            first
              | (have hv1 : (decide (cl = pl) != an_t d0 d1 F w pl own la k) = true := hv
                 refine gz_lw [(0, .ref (ad 19)), (1, .double y), (3, .int x3), (4, .int x4), (5, .int x5), (6, .double (FP.dadd z (R k))), (8, .int x8), (9, .int (x9 + 1))] ⟨rfl, rfl, rfl, rfl, rfl, rfl, rfl, rfl, trivial⟩ ?_
                 exact ih (k + 1) _ _ (by omega) (gz_i1 hx9) (by rw [hz]; show _ = cond (decide (cl = pl) != an_t d0 d1 F w pl own la k) _ _; rw [hv1]; rfl)
                 done)
              | (have hv1 : (decide (cl = pl) != an_t d0 d1 F w pl own la k) = false := hv
                 refine gz_lw [(0, .ref (ad 19)), (1, .double y), (3, .int x3), (4, .int x4), (5, .int x5), (6, .double z), (8, .int x8), (9, .int (x9 + 1))] ⟨rfl, rfl, rfl, rfl, rfl, rfl, rfl, rfl, trivial⟩ ?_
                 exact ih (k + 1) _ _ (by omega) (gz_i1 hx9) (by rw [hz]; show _ = cond (decide (cl = pl) != an_t d0 d1 F w pl own la k) _ _; rw [hv1]; rfl)
                 done)
        · have hcl : decide (cl = pl) = true := decide_eq_true (by rw [hx3, hX.2.1] at c27; exact (nI_eq (by omega) (by omega)).mp c27)
          refine gz_iconst hC (1) dX0_addCallWins_30 (by decide) ?_
          refine gz_goto hC 35 dX0_addCallWins_31 (by decide) ?_
          refine gz_aload_n hC dX0_addCallWins_35 rfl ?_
          refine gz_getR (j := 0) hC dX0_addCallWins_36 cf_X0 fl_X0_22 rfl rfl (by decide) ?_
          refine gz_aload_n hC dX0_addCallWins_39 rfl ?_
          refine gz_getI (j := 3) hC dX0_addCallWins_40 cf_X0 fl_X0_26 rfl rfl (by decide) ?_
          refine gz_aload_n hC dX0_addCallWins_43 rfl ?_
          refine gz_getI (j := 4) hC dX0_addCallWins_44 cf_X0 fl_X0_75 rfl rfl (by decide) ?_
          refine gz_iload hC dX0_addCallWins_47 rfl ?_
          refine gz_iload hC dX0_addCallWins_49 rfl ?_
          refine gz_callV4 hC dX0_addCallWins_51 ml_X0_100 rfl rfl (by decide) (by decide) (Nat.le_of_ble_eq_true rfl) (ct_X6_isTrueFor hJ _ _ d0 d1 F w hO hX.1 pl own k (la - 1) _ _ _ _ hp hX.2.1 hX.2.2.1 hx9 (by rw [hx4]; exact pk_sub (b := 1) (by omega)) ho (by unfold an_nO at hi; omega) (by omega)) (fun v51 M51 hp51 => ?_)
          obtain ⟨rfl, rfl⟩ := hp51
          refine gz_icmp_eq hC 76 dX0_addCallWins_54 (by decide) (fun c54 => ?_) (fun c54 => ?_)
          · have hv : (decide (cl = pl) != an_t d0 d1 F w pl own la k) = false := by
              rw [hcl]
              show (_ != tb_tf d0 d1 F w pl own k (la - 1)) = false
              cases e : tb_tf d0 d1 F w pl own k (la - 1) <;> rw [e] at c54 <;> first | rfl | exact absurd c54 (by decide)
            refine gz_iinc hC (1) dX0_addCallWins_76 rfl (by decide) (by decide) ?_
            refine gz_goto hC 15 dX0_addCallWins_79 (by decide) ?_
            first
              | (have hv1 : (decide (cl = pl) != an_t d0 d1 F w pl own la k) = true := hv
                 refine gz_lw [(0, .ref (ad 19)), (1, .double y), (3, .int x3), (4, .int x4), (5, .int x5), (6, .double (FP.dadd z (R k))), (8, .int x8), (9, .int (x9 + 1))] ⟨rfl, rfl, rfl, rfl, rfl, rfl, rfl, rfl, trivial⟩ ?_
                 exact ih (k + 1) _ _ (by omega) (gz_i1 hx9) (by rw [hz]; show _ = cond (decide (cl = pl) != an_t d0 d1 F w pl own la k) _ _; rw [hv1]; rfl)
                 done)
              | (have hv1 : (decide (cl = pl) != an_t d0 d1 F w pl own la k) = false := hv
                 refine gz_lw [(0, .ref (ad 19)), (1, .double y), (3, .int x3), (4, .int x4), (5, .int x5), (6, .double z), (8, .int x8), (9, .int (x9 + 1))] ⟨rfl, rfl, rfl, rfl, rfl, rfl, rfl, rfl, trivial⟩ ?_
                 exact ih (k + 1) _ _ (by omega) (gz_i1 hx9) (by rw [hz]; show _ = cond (decide (cl = pl) != an_t d0 d1 F w pl own la k) _ _; rw [hv1]; rfl)
                 done)
          · have hv : (decide (cl = pl) != an_t d0 d1 F w pl own la k) = true := by
              rw [hcl]
              show (_ != tb_tf d0 d1 F w pl own k (la - 1)) = true
              cases e : tb_tf d0 d1 F w pl own k (la - 1) <;> rw [e] at c54 <;> first | rfl | exact absurd (by decide) c54
            refine gz_dload hC dX0_addCallWins_57 rfl ?_
            refine gz_aload_n hC dX0_addCallWins_59 rfl ?_
            refine gz_getR (j := 2) hC dX0_addCallWins_60 cf_X0 fl_X0_18 rfl rfl (by decide) ?_
            refine gz_iload hC dX0_addCallWins_63 rfl ?_
            refine gz_iconst hC (4) dX0_addCallWins_65 (by decide) ?_
            refine gz_imul hC dX0_addCallWins_66 ?_
            refine gz_iload hC dX0_addCallWins_67 rfl ?_
            refine gz_iadd hC dX0_addCallWins_69 ?_
            refine gz_callSN2 hC dX0_addCallWins_70 ml_X0_93 (by decide) (by decide) (Nat.le_of_ble_eq_true rfl) (ct_X7_realAt hJ _ _ 22 40 (row * 4 + k) rfl (by decide) _ (by rw [hx5, hx9, gz_n4, pk_mul, nI_add]) (by omega)) (fun v70 M70 hp70 => ?_)
            obtain ⟨rfl, rfl⟩ := hp70
            rw [hR k (by omega)]
            have hacc := an_cs_b (t := (fun k => decide (cl = pl) != an_t d0 d1 F w pl own la k)) (R := R) hy k (fun k2 hk2 => hRb k2 (by omega)) (by omega)
            rw [← hz] at hacc
            refine gz_dadd hC dX0_addCallWins_73 (fp_b_n64 (fp_b_add hacc (fp_b_mono (hRb k (by omega)) (by omega)) (by omega)) (by omega)) ?_
            refine gz_dstore hC dX0_addCallWins_74 (by decide) ?_
            refine gz_iinc hC (1) dX0_addCallWins_76 rfl (by decide) (by decide) ?_
            refine gz_goto hC 15 dX0_addCallWins_79 (by decide) ?_
            first
              | (have hv1 : (decide (cl = pl) != an_t d0 d1 F w pl own la k) = true := hv
                 refine gz_lw [(0, .ref (ad 19)), (1, .double y), (3, .int x3), (4, .int x4), (5, .int x5), (6, .double (FP.dadd z (R k))), (8, .int x8), (9, .int (x9 + 1))] ⟨rfl, rfl, rfl, rfl, rfl, rfl, rfl, rfl, trivial⟩ ?_
                 exact ih (k + 1) _ _ (by omega) (gz_i1 hx9) (by rw [hz]; show _ = cond (decide (cl = pl) != an_t d0 d1 F w pl own la k) _ _; rw [hv1]; rfl)
                 done)
              | (have hv1 : (decide (cl = pl) != an_t d0 d1 F w pl own la k) = false := hv
                 refine gz_lw [(0, .ref (ad 19)), (1, .double y), (3, .int x3), (4, .int x4), (5, .int x5), (6, .double z), (8, .int x8), (9, .int (x9 + 1))] ⟨rfl, rfl, rfl, rfl, rfl, rfl, rfl, rfl, trivial⟩ ?_
                 exact ih (k + 1) _ _ (by omega) (gz_i1 hx9) (by rw [hz]; show _ = cond (decide (cl = pl) != an_t d0 d1 F w pl own la k) _ _; rw [hv1]; rfl)
                 done)
  exact gz_lw [(0, .ref (ad 19)), (1, .double y), (3, .int x3), (4, .int x4), (5, .int x5), (6, .double y), (8, .int x8), (9, .int 0)] ⟨rfl, rfl, rfl, rfl, rfl, rfl, rfl, rfl, trivial⟩ (lp (an_nO d0 d1 F pl) 0 y 0 (by omega) rfl rfl)
  -- places not laid: [17, 19, 22, 23, 24, 27, 30, 31, 34, 35, 36, 39, 40, 43, 44, 47, 49, 51, 54, 57, 59, 60, 63, 65, 66, 67, 69, 70, 73, 74, 76, 79, 82, 84]
end CT
