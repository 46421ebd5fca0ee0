/-! what is asked of the table: hands, throws, bids, chances -/
theorem gz_in_t {x : Int32} {n : Nat} (hn : 1 ≤ n) (hn2 : n < 2 ^ 31) (h : gz_in x 0 (nI n - 1) = true) : ∃ j : Nat, j < n ∧ x = nI j := by
  unfold gz_in at h
  simp only [Bool.and_eq_true, Bool.not_eq_true', decide_eq_false_iff_not] at h
  obtain ⟨h1, h2⟩ := h
  obtain ⟨j, hj, rfl⟩ := nI_of h1
  refine ⟨j, ?_, rfl⟩
  obtain ⟨m, rfl⟩ : ∃ m, n = m + 1 := ⟨n - 1, by omega⟩
  rw [nI_pred] at h2
  rcases Nat.lt_or_ge j (m + 1) with q | q
  · exact q
  · exact absurd (nI_lt (show m < j by omega) hj) h2
theorem gz_in_2 {x : Int32} (h : gz_in x 0 1 = true) : ∃ j : Nat, j < 2 ∧ x = nI j := gz_in_t (n := 2) (by decide) (by decide) h
theorem gz_in_m {x : Int32} {a b : Nat} (hb : b < 2 ^ 31) (hab : a ≤ b) (h : gz_in x (nI a) (nI b) = true) : ∃ j : Nat, a ≤ j ∧ j ≤ b ∧ x = nI j := by
  unfold gz_in at h
  simp only [Bool.and_eq_true, Bool.not_eq_true', decide_eq_false_iff_not] at h
  obtain ⟨h1, h2⟩ := h
  have h0 : ¬ x < 0 := fun q => h1 (Int32.lt_of_lt_of_le q (nI_pos' (by omega)))
  obtain ⟨j, hj, rfl⟩ := nI_of h0
  refine ⟨j, ?_, ?_, rfl⟩
  · rcases Nat.lt_or_ge j a with q | q
    · exact absurd (nI_lt q (by omega)) h1
    · exact q
  · rcases Nat.lt_or_ge b j with q | q
    · exact absurd (nI_lt q hj) h2
    · exact q
def sp_hd (d0 d1 F : Nat) (p h : Int32) : Bool := gz_in p 0 1 && gz_in h 0 (nI (tb_n (tb_d d0 d1 p.toNatClampNeg) F) - 1)
def sp_bid (d0 d1 F : Nat) (b : Int32) : Bool := gz_in b 0 (nI ((d0 + d1) * F) - 1)
def sp_bon (d0 d1 F : Nat) (b : Int32) : Bool := decide (b = -1) || sp_bid d0 d1 F b
theorem sp_hd_t {d0 d1 F : Nat} {p h : Int32} (hO : cf_ok d0 d1 F) (hh : sp_hd d0 d1 F p h = true) : ∃ pl k : Nat, pl < 2 ∧ k < tb_n (tb_d d0 d1 pl) F ∧ p = nI pl ∧ h = nI k := by
  unfold sp_hd at hh
  rw [Bool.and_eq_true] at hh
  obtain ⟨pl, hpl, rfl⟩ := gz_in_2 hh.1
  have T := tb_facts (cf_okP hO hpl)
  have h2 := hh.2
  rw [nI_clamp (by omega)] at h2
  obtain ⟨k, hk, rfl⟩ := gz_in_t T.2.2.2.1 (by omega) h2
  exact ⟨pl, k, hpl, hk, rfl, rfl⟩
theorem cf_bids {d0 d1 F : Nat} (hO : cf_ok d0 d1 F) : 1 ≤ (d0 + d1) * F ∧ (d0 + d1) * F ≤ 8 := by
  have T := tb_facts hO.1
  exact ⟨Nat.mul_pos (by omega) (by omega), hO.2.2⟩
theorem sp_bid_t {d0 d1 F : Nat} {b : Int32} (hO : cf_ok d0 d1 F) (h : sp_bid d0 d1 F b = true) : ∃ k : Nat, k < (d0 + d1) * F ∧ b = nI k := gz_in_t (cf_bids hO).1 (by have := (cf_bids hO).2; omega) h
def sp_hands (d0 d1 F : Nat) (p : Int32) : Int32 := cond (gz_in p 0 1) (nI (tb_n (tb_d d0 d1 p.toNatClampNeg) F)) (-2)
def sp_hand (d0 d1 F : Nat) (p h f : Int32) : Int32 := cond (sp_hd d0 d1 F p h && gz_in f 0 (nI F - 1)) (nI (tb_cnt (tb_rw (tb_d d0 d1 p.toNatClampNeg) F h.toNatClampNeg) (tb_d d0 d1 p.toNatClampNeg) f.toNatClampNeg)) (-100)
def sp_throws (d0 d1 F : Nat) (p h : Int32) : Int32 := cond (sp_hd d0 d1 F p h) (nI (tb_w (tb_d d0 d1 p.toNatClampNeg) F h.toNatClampNeg)) (-2)
def sp_holds (d0 d1 F : Nat) (w : Bool) (g h b : Int32) : Int32 := cond (sp_hd d0 d1 F 0 g && (sp_hd d0 d1 F 1 h && sp_bid d0 d1 F b)) (gz_b (tb_t d0 d1 F w g.toNatClampNeg h.toNatClampNeg b.toNatClampNeg)) (-2)
/-- throws of the other one with which a bid holds; all of them -/
def tb_ab (d0 d1 F : Nat) (w : Bool) (pl h b : Nat) : Nat := tb_wh d0 d1 F w pl h b (tb_n (tb_d d0 d1 (1 - pl)) F)
def tb_be (d0 d1 F pl : Nat) : Nat := F ^ tb_d d0 d1 (1 - pl)
def tb_ch (d0 d1 F : Nat) (w : Bool) (pl h b wt : Nat) : Nat := (if wt = 0 then tb_ab d0 d1 F w pl h b else tb_be d0 d1 F pl) / Nat.gcd (tb_ab d0 d1 F w pl h b) (tb_be d0 d1 F pl)
def sp_chance (d0 d1 F : Nat) (w : Bool) (p h b wt : Int32) : Int32 := cond (sp_hd d0 d1 F p h && (sp_bid d0 d1 F b && gz_in wt 0 1)) (nI (tb_ch d0 d1 F w p.toNatClampNeg h.toNatClampNeg b.toNatClampNeg wt.toNatClampNeg)) (-2)
/-- the greatest one below n of a kind -/
def tb_su (q : Nat → Bool) : Nat → Int32
  | 0 => -1
  | n + 1 => cond (q n) (nI n) (tb_su q n)
def sp_surest (d0 d1 F : Nat) (w : Bool) (p h a b : Int32) : Int32 := cond (sp_hd d0 d1 F p h && (gz_in a 1 100 && gz_in b 1 100)) (tb_su (fun k => decide (a.toNatClampNeg * tb_be d0 d1 F p.toNatClampNeg ≤ tb_ab d0 d1 F w p.toNatClampNeg h.toNatClampNeg k * b.toNatClampNeg)) ((d0 + d1) * F)) (-2)
theorem tb_sum_le {f : Nat → Nat} {m : Nat} (h : ∀ k, f k ≤ m) : ∀ n, tb_sum f n ≤ n * m
  | 0 => by simp [tb_sum]
  | n + 1 => by
    have := tb_sum_le h n
    have := h n
    unfold tb_sum
    rw [Nat.succ_mul]
    omega
theorem tb_w_le {d F h : Nat} (hd : d ≤ 3) : tb_w d F h ≤ 6 := Nat.le_trans (tb_ord_le _ _ _) (tb_fac3 hd)
theorem tb_ab_le {d0 d1 F : Nat} (hO : cf_ok d0 d1 F) (w : Bool) (pl h b : Nat) (hp : pl < 2) : tb_ab d0 d1 F w pl h b ≤ 24 := by
  have T := tb_facts (cf_okP hO (show 1 - pl < 2 by omega))
  have := tb_sum_le (f := fun k => cond (tb_tf d0 d1 F w pl h k b) (tb_w (tb_d d0 d1 (1 - pl)) F k) 0) (m := 6) (fun k => by cases tb_tf d0 d1 F w pl h k b; exact Nat.zero_le 6; exact tb_w_le T.2.2.2.2.2.1) (tb_n (tb_d d0 d1 (1 - pl)) F)
  unfold tb_ab tb_wh
  omega
theorem tb_be_in {d0 d1 F : Nat} (hO : cf_ok d0 d1 F) {pl : Nat} (hp : pl < 2) : 1 ≤ tb_be d0 d1 F pl ∧ tb_be d0 d1 F pl ≤ 8 := by
  have h := cf_okP hO (show 1 - pl < 2 by omega)
  unfold tb_be
  rcases h with ⟨e, rfl⟩ | ⟨e, rfl⟩ | ⟨e, rfl⟩ | ⟨e, rfl⟩ | ⟨e, rfl⟩ <;> rw [e] <;> decide
section CT
variable {l : Launch} {D : va_G} {ad : Nat → Nat} {cy : Nat → ClassId}
set_option maxHeartbeats 4000000 in
set_option maxRecDepth 100000 in
theorem ct_X7_isHand (hJ : gz_inj ad lx_lay) (I : Nat → Nat → Int32) (G : Nat → Nat → UInt64) (d0 d1 F : Nat) (w : Bool) (hO : cf_ok d0 d1 F) (hX : xi_tab d0 d1 F w I) (p0 h0 : Int32) : gz_Ct l D ad cy lx_lay yX7_isHand cX7_isHand 3 (some .boolean) 2 [.ref (ad 0), .int p0, .int h0] (I, G) (fun v M1 => v = some (.int (gz_b (sp_hd d0 d1 F p0 h0))) ∧ M1 = (I, G)) := by
  refine gz_met (by decide +kernel) hJ (Nat.le_of_ble_eq_true rfl) ?_
  intro p e s m args below meth c hC
  refine gz_iload_n hC dX7_isHand_0 rfl ?_
  refine gz_callS1 hC dX7_isHand_1 ml_X7_64 (by decide) (by decide) (Nat.le_of_ble_eq_true rfl) (ct_X7_isPlayer hJ _ _ _) (fun v1 M1 hp1 => ?_)
  obtain ⟨rfl, rfl⟩ := hp1
  refine gz_if_eq hC 32 dX7_isHand_4 (by decide) (fun c4 => ?_) (fun c4 => ?_)
  · have q1 := gz_b0 c4
    refine gz_iconst hC (0) dX7_isHand_32 (by decide) ?_
    exact gz_zret rfl hC dX7_isHand_33 ⟨gz_v (by unfold sp_hd; first | (rw [q1, show p0.toNatClampNeg = pl by rw [hp0, nI_clamp (by omega)], q2]; rfl) | (rw [q1]; rfl)), rfl⟩
  · have q1 := gz_b1 c4
    obtain ⟨pl, hpl, hp0⟩ := gz_in_2 q1
    refine gz_iload_n hC dX7_isHand_7 rfl ?_
    refine gz_iconst hC (0) dX7_isHand_8 (by decide) ?_
    refine gz_aload_n hC dX7_isHand_9 rfl ?_
    refine gz_getR (j := 0) hC dX7_isHand_10 cf_X7 fl_X7_12 rfl rfl (by decide) ?_
    refine gz_iload_n hC dX7_isHand_13 rfl ?_
    refine gz_callV1 hC dX7_isHand_14 ml_X7_68 rfl rfl (by decide) (by decide) (Nat.le_of_ble_eq_true rfl) (ct_X6_cup hJ _ _ _ (3 + 4 * pl) (by rw [hp0]; match pl, hpl with | 0, _ => exact Or.inl ⟨rfl, rfl⟩ | 1, _ => exact Or.inr ⟨by decide, rfl⟩)) (fun v14 M14 hp14 => ?_)
    obtain ⟨rfl, rfl⟩ := hp14
    refine gz_getIN (j := 5) hC dX7_isHand_17 cf_X1 fl_X7_72 (lx_cupP hpl).1 rfl (by decide) ?_
    refine gz_iconst hC (1) dX7_isHand_20 (by decide) ?_
    rw [(xi_cupP hX hpl).2.2.1]
    refine gz_isub hC dX7_isHand_21 ?_
    refine gz_callS3 hC dX7_isHand_22 ml_X7_50 (by decide) (by decide) (Nat.le_of_ble_eq_true rfl) (ct_X7_within hJ _ _ _ _ _) (fun v22 M22 hp22 => ?_)
    obtain ⟨rfl, rfl⟩ := hp22
    refine gz_if_eq hC 32 dX7_isHand_25 (by decide) (fun c25 => ?_) (fun c25 => ?_)
    · have q2 := gz_b0 c25
      refine gz_iconst hC (0) dX7_isHand_32 (by decide) ?_
      exact gz_zret rfl hC dX7_isHand_33 ⟨gz_v (by unfold sp_hd; first | (rw [q1, show p0.toNatClampNeg = pl by rw [hp0, nI_clamp (by omega)], q2]; rfl) | (rw [q1]; rfl)), rfl⟩
    · have q2 := gz_b1 c25
      refine gz_iconst hC (1) dX7_isHand_28 (by decide) ?_
      refine gz_goto hC 33 dX7_isHand_29 (by decide) ?_
      exact gz_zret rfl hC dX7_isHand_33 ⟨gz_v (by unfold sp_hd; first | (rw [q1, show p0.toNatClampNeg = pl by rw [hp0, nI_clamp (by omega)], q2]; rfl) | (rw [q1]; rfl)), rfl⟩
set_option maxHeartbeats 4000000 in
set_option maxRecDepth 100000 in
theorem ct_X7_isBid (hJ : gz_inj ad lx_lay) (I : Nat → Nat → Int32) (G : Nat → Nat → UInt64) (d0 d1 F : Nat) (w : Bool) (hO : cf_ok d0 d1 F) (hX : xi_tab d0 d1 F w I) (b : Int32) : gz_Ct l D ad cy lx_lay yX7_isBid cX7_isBid 2 (some .boolean) 1 [.ref (ad 0), .int b] (I, G) (fun v M1 => v = some (.int (gz_b (sp_bid d0 d1 F b))) ∧ M1 = (I, G)) := by
  refine gz_met (by decide +kernel) hJ (Nat.le_of_ble_eq_true rfl) ?_
  intro p e s m args below meth c hC
  refine gz_iload_n hC dX7_isBid_0 rfl ?_
  refine gz_iconst hC (0) dX7_isBid_1 (by decide) ?_
  refine gz_aload_n hC dX7_isBid_2 rfl ?_
  refine gz_getR (j := 0) hC dX7_isBid_3 cf_X7 fl_X7_12 rfl rfl (by decide) ?_
  refine gz_getIN (j := 4) hC dX7_isBid_6 cf_X6 fl_X7_60 rfl rfl (by decide) ?_
  refine gz_iconst hC (1) dX7_isBid_9 (by decide) ?_
  rw [hX.2.1]
  refine gz_isub hC dX7_isBid_10 ?_
  refine gz_callS3 hC dX7_isBid_11 ml_X7_50 (by decide) (by decide) (Nat.le_of_ble_eq_true rfl) (ct_X7_within hJ _ _ _ _ _) (fun v11 M11 hp11 => ?_)
  obtain ⟨rfl, rfl⟩ := hp11
  exact gz_zret (gz_bn _) hC dX7_isBid_14 ⟨rfl, rfl⟩
set_option maxHeartbeats 4000000 in
set_option maxRecDepth 100000 in
theorem ct_X7_isBidOrNone (hJ : gz_inj ad lx_lay) (I : Nat → Nat → Int32) (G : Nat → Nat → UInt64) (d0 d1 F : Nat) (w : Bool) (hO : cf_ok d0 d1 F) (hX : xi_tab d0 d1 F w I) (b : Int32) : gz_Ct l D ad cy lx_lay yX7_isBidOrNone cX7_isBidOrNone 2 (some .boolean) 2 [.ref (ad 0), .int b] (I, G) (fun v M1 => v = some (.int (gz_b (sp_bon d0 d1 F b))) ∧ M1 = (I, G)) := by
  refine gz_met (by decide +kernel) hJ (Nat.le_of_ble_eq_true rfl) ?_
  intro p e s m args below meth c hC
  refine gz_iload_n hC dX7_isBidOrNone_0 rfl ?_
  refine gz_iconst hC (-1) dX7_isBidOrNone_1 (by decide) ?_
  refine gz_icmp_eq hC 13 dX7_isBidOrNone_2 (by decide) (fun c2 => ?_) (fun c2 => ?_)
  · refine gz_iconst hC (1) dX7_isBidOrNone_13 (by decide) ?_
    refine gz_goto hC 18 dX7_isBidOrNone_14 (by decide) ?_
    exact gz_zret rfl hC dX7_isBidOrNone_18 ⟨gz_v (by unfold sp_bon; first | (rw [q2, decide_eq_false c2]; rfl) | (rw [decide_eq_true c2]; rfl)), rfl⟩
  · refine gz_aload_n hC dX7_isBidOrNone_5 rfl ?_
    refine gz_iload_n hC dX7_isBidOrNone_6 rfl ?_
    refine gz_callV1 hC dX7_isBidOrNone_7 ml_X7_92 rfl rfl (by decide) (by decide) (Nat.le_of_ble_eq_true rfl) (ct_X7_isBid hJ _ _ d0 d1 F w hO hX _) (fun v7 M7 hp7 => ?_)
    obtain ⟨rfl, rfl⟩ := hp7
    refine gz_if_eq hC 17 dX7_isBidOrNone_10 (by decide) (fun c10 => ?_) (fun c10 => ?_)
    · have q2 := gz_b0 c10
      refine gz_iconst hC (0) dX7_isBidOrNone_17 (by decide) ?_
      exact gz_zret rfl hC dX7_isBidOrNone_18 ⟨gz_v (by unfold sp_bon; first | (rw [q2, decide_eq_false c2]; rfl) | (rw [decide_eq_true c2]; rfl)), rfl⟩
    · have q2 := gz_b1 c10
      refine gz_iconst hC (1) dX7_isBidOrNone_13 (by decide) ?_
      refine gz_goto hC 18 dX7_isBidOrNone_14 (by decide) ?_
      exact gz_zret rfl hC dX7_isBidOrNone_18 ⟨gz_v (by unfold sp_bon; first | (rw [q2, decide_eq_false c2]; rfl) | (rw [decide_eq_true c2]; rfl)), rfl⟩
set_option maxHeartbeats 4000000 in
set_option maxRecDepth 100000 in
theorem ct_X7_hands (hJ : gz_inj ad lx_lay) (I : Nat → Nat → Int32) (G : Nat → Nat → UInt64) (d0 d1 F : Nat) (w : Bool) (hO : cf_ok d0 d1 F) (hX : xi_tab d0 d1 F w I) (p0 : Int32) : gz_Ct l D ad cy lx_lay yX7_hands cX7_hands 2 (some .int) 2 [.ref (ad 0), .int p0] (I, G) (fun v M1 => v = some (.int (sp_hands d0 d1 F p0)) ∧ M1 = (I, G)) := by
  refine gz_met (by decide +kernel) hJ (Nat.le_of_ble_eq_true rfl) ?_
  intro p e s m args below meth c hC
  refine gz_iload_n hC dX7_hands_0 rfl ?_
  refine gz_callS1 hC dX7_hands_1 ml_X7_64 (by decide) (by decide) (Nat.le_of_ble_eq_true rfl) (ct_X7_isPlayer hJ _ _ _) (fun v1 M1 hp1 => ?_)
  obtain ⟨rfl, rfl⟩ := hp1
  refine gz_if_eq hC 21 dX7_hands_4 (by decide) (fun c4 => ?_) (fun c4 => ?_)
  · have q1 := gz_b0 c4
    refine gz_bipush hC (-2) dX7_hands_21 (by decide) ?_
    exact gz_iret hC dX7_hands_23 ⟨gz_v (by unfold sp_hands; rw [q1]; first | (rw [show p0.toNatClampNeg = pl by rw [hp0, nI_clamp (by omega)]]; exact (xi_cupP hX hpl).2.2.1) | rfl), rfl⟩
  · have q1 := gz_b1 c4
    obtain ⟨pl, hpl, hp0⟩ := gz_in_2 q1
    refine gz_aload_n hC dX7_hands_7 rfl ?_
    refine gz_getR (j := 0) hC dX7_hands_8 cf_X7 fl_X7_12 rfl rfl (by decide) ?_
    refine gz_iload_n hC dX7_hands_11 rfl ?_
    refine gz_callV1 hC dX7_hands_12 ml_X7_68 rfl rfl (by decide) (by decide) (Nat.le_of_ble_eq_true rfl) (ct_X6_cup hJ _ _ _ (3 + 4 * pl) (by rw [hp0]; match pl, hpl with | 0, _ => exact Or.inl ⟨rfl, rfl⟩ | 1, _ => exact Or.inr ⟨by decide, rfl⟩)) (fun v12 M12 hp12 => ?_)
    obtain ⟨rfl, rfl⟩ := hp12
    refine gz_getIN (j := 5) hC dX7_hands_15 cf_X1 fl_X7_72 (lx_cupP hpl).1 rfl (by decide) ?_
    refine gz_goto hC 23 dX7_hands_18 (by decide) ?_
    exact gz_iret hC dX7_hands_23 ⟨gz_v (by unfold sp_hands; rw [q1]; first | (rw [show p0.toNatClampNeg = pl by rw [hp0, nI_clamp (by omega)]]; exact (xi_cupP hX hpl).2.2.1) | rfl), rfl⟩
set_option maxHeartbeats 4000000 in
set_option maxRecDepth 100000 in
theorem ct_X7_hand (hJ : gz_inj ad lx_lay) (I : Nat → Nat → Int32) (G : Nat → Nat → UInt64) (d0 d1 F : Nat) (w : Bool) (hO : cf_ok d0 d1 F) (hX : xi_tab d0 d1 F w I) (p0 h0 f0 : Int32) : gz_Ct l D ad cy lx_lay yX7_hand cX7_hand 4 (some .int) 3 [.ref (ad 0), .int p0, .int h0, .int f0] (I, G) (fun v M1 => v = some (.int (sp_hand d0 d1 F p0 h0 f0)) ∧ M1 = (I, G)) := by
  refine gz_met (by decide +kernel) hJ (Nat.le_of_ble_eq_true rfl) ?_
  intro p e s m args below meth c hC
  refine gz_aload_n hC dX7_hand_0 rfl ?_
  refine gz_iload_n hC dX7_hand_1 rfl ?_
  refine gz_iload_n hC dX7_hand_2 rfl ?_
  refine gz_callV2 hC dX7_hand_3 ml_X7_77 rfl rfl (by decide) (by decide) (Nat.le_of_ble_eq_true rfl) (ct_X7_isHand hJ _ _ d0 d1 F w hO hX _ _) (fun v3 M3 hp3 => ?_)
  obtain ⟨rfl, rfl⟩ := hp3
  refine gz_if_eq hC 26 dX7_hand_6 (by decide) (fun c6 => ?_) (fun c6 => ?_)
  · have q1 := gz_b0 c6
    refine gz_bipush hC (-100) dX7_hand_26 (by decide) ?_
    exact gz_iret hC dX7_hand_28 ⟨gz_v (by unfold sp_hand; first | (rw [q1, q2]; rfl) | (rw [q1]; rfl)), rfl⟩
  · have q1 := gz_b1 c6
    obtain ⟨pl, hh, hpl, hk, hp0, hh0⟩ := sp_hd_t hO q1
    have T := tb_facts (cf_okP hO hpl)
    refine gz_iload_n hC dX7_hand_9 rfl ?_
    refine gz_iconst hC (0) dX7_hand_10 (by decide) ?_
    refine gz_aload_n hC dX7_hand_11 rfl ?_
    refine gz_getR (j := 0) hC dX7_hand_12 cf_X7 fl_X7_12 rfl rfl (by decide) ?_
    refine gz_getIN (j := 3) hC dX7_hand_15 cf_X6 fl_X7_81 rfl rfl (by decide) ?_
    refine gz_iconst hC (1) dX7_hand_18 (by decide) ?_
    rw [hX.1]
    refine gz_isub hC dX7_hand_19 ?_
    refine gz_callS3 hC dX7_hand_20 ml_X7_50 (by decide) (by decide) (Nat.le_of_ble_eq_true rfl) (ct_X7_within hJ _ _ _ _ _) (fun v20 M20 hp20 => ?_)
    obtain ⟨rfl, rfl⟩ := hp20
    refine gz_if_ne hC 29 dX7_hand_23 (by decide) (fun c23 => ?_) (fun c23 => ?_)
    · have q2 := gz_b1 c23
      obtain ⟨ff, hff, hf0⟩ := gz_in_t (by omega) (by omega) q2
      refine gz_aload_n hC dX7_hand_29 rfl ?_
      refine gz_getR (j := 0) hC dX7_hand_30 cf_X7 fl_X7_12 rfl rfl (by decide) ?_
      refine gz_iload_n hC dX7_hand_33 rfl ?_
      refine gz_callV1 hC dX7_hand_34 ml_X7_68 rfl rfl (by decide) (by decide) (Nat.le_of_ble_eq_true rfl) (ct_X6_cup hJ _ _ _ (3 + 4 * pl) (by rw [hp0]; match pl, hpl with | 0, _ => exact Or.inl ⟨rfl, rfl⟩ | 1, _ => exact Or.inr ⟨by decide, rfl⟩)) (fun v34 M34 hp34 => ?_)
      obtain ⟨rfl, rfl⟩ := hp34
      refine gz_iload_n hC dX7_hand_37 rfl ?_
      refine gz_iload_n hC dX7_hand_38 rfl ?_
      refine gz_callV2 hC dX7_hand_39 ml_X7_84 (lx_cupP hpl).1 rfl (by decide) (by decide) (Nat.le_of_ble_eq_true rfl) (ct_X1_pipsOf hJ _ _ _ (lx_cupP hpl) hh ff _ _ hh0 hf0 (by omega) (by omega)) (fun v39 M39 hp39 => ?_)
      obtain ⟨rfl, rfl⟩ := hp39
      exact gz_iret hC dX7_hand_42 ⟨gz_v (by unfold sp_hand; rw [q1, q2, hp0, hh0, hf0, nI_clamp (by omega), nI_clamp (by omega), nI_clamp (by omega)]; exact (xi_cupP hX hpl).2.2.2.1 hh hk ff (by omega)), rfl⟩
    · have q2 := gz_b0 c23
      refine gz_bipush hC (-100) dX7_hand_26 (by decide) ?_
      exact gz_iret hC dX7_hand_28 ⟨gz_v (by unfold sp_hand; first | (rw [q1, q2]; rfl) | (rw [q1]; rfl)), rfl⟩
set_option maxHeartbeats 4000000 in
set_option maxRecDepth 100000 in
theorem ct_X7_throwsOf (hJ : gz_inj ad lx_lay) (I : Nat → Nat → Int32) (G : Nat → Nat → UInt64) (d0 d1 F : Nat) (w : Bool) (hO : cf_ok d0 d1 F) (hX : xi_tab d0 d1 F w I) (p0 h0 : Int32) : gz_Ct l D ad cy lx_lay yX7_throwsOf cX7_throwsOf 3 (some .int) 3 [.ref (ad 0), .int p0, .int h0] (I, G) (fun v M1 => v = some (.int (sp_throws d0 d1 F p0 h0)) ∧ M1 = (I, G)) := by
  refine gz_met (by decide +kernel) hJ (Nat.le_of_ble_eq_true rfl) ?_
  intro p e s m args below meth c hC
  refine gz_aload_n hC dX7_throwsOf_0 rfl ?_
  refine gz_iload_n hC dX7_throwsOf_1 rfl ?_
  refine gz_iload_n hC dX7_throwsOf_2 rfl ?_
  refine gz_callV2 hC dX7_throwsOf_3 ml_X7_77 rfl rfl (by decide) (by decide) (Nat.le_of_ble_eq_true rfl) (ct_X7_isHand hJ _ _ d0 d1 F w hO hX _ _) (fun v3 M3 hp3 => ?_)
  obtain ⟨rfl, rfl⟩ := hp3
  refine gz_if_eq hC 24 dX7_throwsOf_6 (by decide) (fun c6 => ?_) (fun c6 => ?_)
  · have q1 := gz_b0 c6
    refine gz_bipush hC (-2) dX7_throwsOf_24 (by decide) ?_
    exact gz_iret hC dX7_throwsOf_26 ⟨gz_v (by unfold sp_throws; rw [q1]; first | (rw [hp0, hh0, nI_clamp (by omega), nI_clamp (by omega)]; exact (xi_cupP hX hpl).2.2.2.2 hh hk) | rfl), rfl⟩
  · have q1 := gz_b1 c6
    obtain ⟨pl, hh, hpl, hk, hp0, hh0⟩ := sp_hd_t hO q1
    have T := tb_facts (cf_okP hO hpl)
    refine gz_aload_n hC dX7_throwsOf_9 rfl ?_
    refine gz_getR (j := 0) hC dX7_throwsOf_10 cf_X7 fl_X7_12 rfl rfl (by decide) ?_
    refine gz_iload_n hC dX7_throwsOf_13 rfl ?_
    refine gz_callV1 hC dX7_throwsOf_14 ml_X7_68 rfl rfl (by decide) (by decide) (Nat.le_of_ble_eq_true rfl) (ct_X6_cup hJ _ _ _ (3 + 4 * pl) (by rw [hp0]; match pl, hpl with | 0, _ => exact Or.inl ⟨rfl, rfl⟩ | 1, _ => exact Or.inr ⟨by decide, rfl⟩)) (fun v14 M14 hp14 => ?_)
    obtain ⟨rfl, rfl⟩ := hp14
    refine gz_iload_n hC dX7_throwsOf_17 rfl ?_
    refine gz_callV1 hC dX7_throwsOf_18 ml_X7_88 (lx_cupP hpl).1 rfl (by decide) (by decide) (Nat.le_of_ble_eq_true rfl) (ct_X1_waysOf hJ _ _ _ (lx_cupP hpl) hh _ hh0 (by omega)) (fun v18 M18 hp18 => ?_)
    obtain ⟨rfl, rfl⟩ := hp18
    refine gz_goto hC 26 dX7_throwsOf_21 (by decide) ?_
    exact gz_iret hC dX7_throwsOf_26 ⟨gz_v (by unfold sp_throws; rw [q1]; first | (rw [hp0, hh0, nI_clamp (by omega), nI_clamp (by omega)]; exact (xi_cupP hX hpl).2.2.2.2 hh hk) | rfl), rfl⟩
set_option maxHeartbeats 4000000 in
set_option maxRecDepth 100000 in
theorem ct_X7_holds (hJ : gz_inj ad lx_lay) (I : Nat → Nat → Int32) (G : Nat → Nat → UInt64) (d0 d1 F : Nat) (w : Bool) (hO : cf_ok d0 d1 F) (hX : xi_tab d0 d1 F w I) (g0 h0 b0 : Int32) : gz_Ct l D ad cy lx_lay yX7_holds cX7_holds 4 (some .int) 3 [.ref (ad 0), .int g0, .int h0, .int b0] (I, G) (fun v M1 => v = some (.int (sp_holds d0 d1 F w g0 h0 b0)) ∧ M1 = (I, G)) := by
  refine gz_met (by decide +kernel) hJ (Nat.le_of_ble_eq_true rfl) ?_
  intro p e s m args below meth c hC
  refine gz_aload_n hC dX7_holds_0 rfl ?_
  refine gz_iconst hC (0) dX7_holds_1 (by decide) ?_
  refine gz_iload_n hC dX7_holds_2 rfl ?_
  refine gz_callV2 hC dX7_holds_3 ml_X7_77 rfl rfl (by decide) (by decide) (Nat.le_of_ble_eq_true rfl) (ct_X7_isHand hJ _ _ d0 d1 F w hO hX _ _) (fun v3 M3 hp3 => ?_)
  obtain ⟨rfl, rfl⟩ := hp3
  refine gz_if_eq hC 26 dX7_holds_6 (by decide) (fun c6 => ?_) (fun c6 => ?_)
  · have q1 := gz_b0 c6
    refine gz_bipush hC (-2) dX7_holds_26 (by decide) ?_
    exact gz_iret hC dX7_holds_28 ⟨gz_v (by unfold sp_holds; first | (rw [q1, q2, q3]; rfl) | (rw [q1, q2]; rfl) | (rw [q1]; rfl)), rfl⟩
  · have q1 := gz_b1 c6
    obtain ⟨pl, gg, hpl, hg, hp0, hg0⟩ := sp_hd_t hO q1
    have hpz : pl = 0 := by rcases (show pl = 0 ∨ pl = 1 by omega) with q | q; exact q; exact absurd (hp0.trans (by rw [q])) (by decide)
    subst hpz
    refine gz_aload_n hC dX7_holds_9 rfl ?_
    refine gz_iconst hC (1) dX7_holds_10 (by decide) ?_
    refine gz_iload_n hC dX7_holds_11 rfl ?_
    refine gz_callV2 hC dX7_holds_12 ml_X7_77 rfl rfl (by decide) (by decide) (Nat.le_of_ble_eq_true rfl) (ct_X7_isHand hJ _ _ d0 d1 F w hO hX _ _) (fun v12 M12 hp12 => ?_)
    obtain ⟨rfl, rfl⟩ := hp12
    refine gz_if_eq hC 26 dX7_holds_15 (by decide) (fun c15 => ?_) (fun c15 => ?_)
    · have q2 := gz_b0 c15
      refine gz_bipush hC (-2) dX7_holds_26 (by decide) ?_
      exact gz_iret hC dX7_holds_28 ⟨gz_v (by unfold sp_holds; first | (rw [q1, q2, q3]; rfl) | (rw [q1, q2]; rfl) | (rw [q1]; rfl)), rfl⟩
    · have q2 := gz_b1 c15
      obtain ⟨pm, hh, hpm, hk, hp1, hh0⟩ := sp_hd_t hO q2
      have hpz : pm = 1 := by rcases (show pm = 0 ∨ pm = 1 by omega) with q | q; exact absurd (hp1.trans (by rw [q])) (by decide); exact q
      subst hpz
      refine gz_aload_n hC dX7_holds_18 rfl ?_
      refine gz_iload_n hC dX7_holds_19 rfl ?_
      refine gz_callV1 hC dX7_holds_20 ml_X7_92 rfl rfl (by decide) (by decide) (Nat.le_of_ble_eq_true rfl) (ct_X7_isBid hJ _ _ d0 d1 F w hO hX _) (fun v20 M20 hp20 => ?_)
      obtain ⟨rfl, rfl⟩ := hp20
      refine gz_if_ne hC 29 dX7_holds_23 (by decide) (fun c23 => ?_) (fun c23 => ?_)
      · have q3 := gz_b1 c23
        obtain ⟨bb, hb, hb0⟩ := sp_bid_t hO q3
        have T := tb_facts hO.1
        have U := tb_facts hO.2.1
        have Bd := (cf_bids hO).2
        refine gz_aload_n hC dX7_holds_29 rfl ?_
        refine gz_getR (j := 0) hC dX7_holds_30 cf_X7 fl_X7_12 rfl rfl (by decide) ?_
        refine gz_iload_n hC dX7_holds_33 rfl ?_
        refine gz_iload_n hC dX7_holds_34 rfl ?_
        refine gz_iload_n hC dX7_holds_35 rfl ?_
        refine gz_callV3 hC dX7_holds_36 ml_X7_95 rfl rfl (by decide) (by decide) (Nat.le_of_ble_eq_true rfl) (ct_X6_isTrue hJ _ _ d0 d1 F w hO hX gg hh bb _ _ _ hg0 hh0 hb0 hg hk hb) (fun v36 M36 hp36 => ?_)
        obtain ⟨rfl, rfl⟩ := hp36
        have q4 : sp_holds d0 d1 F w g0 h0 b0 = gz_b (tb_t d0 d1 F w gg hh bb) := by
          have e1 : tb_n (tb_d d0 d1 0) F ≤ 4 := T.2.2.2.2.1
          have e2 : tb_n (tb_d d0 d1 1) F ≤ 4 := U.2.2.2.2.1
          unfold sp_holds
          rw [q1, q2, q3, hg0, hh0, hb0, nI_clamp (by omega), nI_clamp (by omega), nI_clamp (by omega)]
          rfl
        refine gz_if_eq hC 46 dX7_holds_39 (by decide) (fun c39 => ?_) (fun c39 => ?_)
        · have q5 := gz_b0 c39
          refine gz_iconst hC (0) dX7_holds_46 (by decide) ?_
          exact gz_iret hC dX7_holds_47 ⟨gz_v (by rw [q4, q5]; rfl), rfl⟩
        · have q5 := gz_b1 c39
          refine gz_iconst hC (1) dX7_holds_42 (by decide) ?_
          refine gz_goto hC 47 dX7_holds_43 (by decide) ?_
          exact gz_iret hC dX7_holds_47 ⟨gz_v (by rw [q4, q5]; rfl), rfl⟩
      · have q3 := gz_b0 c23
        refine gz_bipush hC (-2) dX7_holds_26 (by decide) ?_
        exact gz_iret hC dX7_holds_28 ⟨gz_v (by unfold sp_holds; first | (rw [q1, q2, q3]; rfl) | (rw [q1, q2]; rfl) | (rw [q1]; rfl)), rfl⟩
set_option maxHeartbeats 4000000 in
set_option maxRecDepth 100000 in
theorem ct_X7_commonDivisor (hJ : gz_inj ad lx_lay) (I : Nat → Nat → Int32) (G : Nat → Nat → UInt64) (a b : Int32) (x0 y0 : Nat) (ha : a = nI x0) (hb : b = nI y0) (hx0 : x0 < 60) (hy0 : y0 < 60) : gz_Ct l D ad cy lx_lay yX7_commonDivisor cX7_commonDivisor 6 (some .int) 1 [.int a, .int b] (I, G) (fun v M1 => v = some (.int (nI (Nat.gcd x0 y0))) ∧ M1 = (I, G)) := by
  refine gz_met (by decide +kernel) hJ (Nat.le_of_ble_eq_true rfl) ?_
  intro p e s m args below meth c hC
  refine gz_iload_n hC dX7_commonDivisor_0 rfl ?_
  refine gz_istore_n hC dX7_commonDivisor_1 (by decide) ?_
  refine gz_iload_n hC dX7_commonDivisor_2 rfl ?_
  refine gz_istore_n hC dX7_commonDivisor_3 (by decide) ?_
  refine gz_iconst hC (0) dX7_commonDivisor_4 (by decide) ?_
  refine gz_istore hC dX7_commonDivisor_5 (by decide) ?_
  have lp : ∀ (n i xn yn : Nat) (x y z : Int32) (hxn : xn ≤ n) (hin : i + n < 64) (hxb : xn < 60) (hyn : yn < 60) (hg : Nat.gcd xn yn = Nat.gcd x0 y0) (hx : x = nI xn) (hy : y = nI yn) (hz : z = nI i), gz_W p l e (gz_rm 1) s m args below meth c D ad cy lx_lay 6 (MQ below (gz_Q D ad cy lx_lay (fun v M1 => v = some (.int (nI (Nat.gcd x0 y0))) ∧ M1 = (I, G))) args s 0 0 (gz_A ad lx_lay)) (I, G) 7 [(0, .int a), (1, .int b), (2, .int y), (3, .int x), (4, .int z)] [] := by
    intro n
    induction n with
    | zero =>
      intro i xn yn x y z hxn hin hxb hyn hg hx hy hz
      refine gz_iload hC dX7_commonDivisor_7 rfl ?_
      refine gz_bipush hC (64) dX7_commonDivisor_9 (by decide) ?_
      refine gz_icmp_ge hC 36 dX7_commonDivisor_11 (by decide) (fun c11 => ?_) (fun c11 => ?_)
      · exact absurd c11 (gz_inle (by rfl : (64 : Int32) = nI 64) hz (by omega) (by omega))
      · refine gz_iload_n hC dX7_commonDivisor_14 rfl ?_
        refine gz_if_le hC 36 dX7_commonDivisor_15 (by decide) (fun c15 => ?_) (fun c15 => ?_)
        · have hxz : xn = 0 := by omega
          refine gz_iload_n hC dX7_commonDivisor_36 rfl ?_
          exact gz_iret hC dX7_commonDivisor_37 ⟨gz_v (by rw [hy]; congr 1; rw [← hg, hxz, Nat.gcd_zero_left]), rfl⟩
        · exact absurd (by rw [hx, show xn = 0 by omega]; decide) c15
    | succ n ih =>
      intro i xn yn x y z hxn hin hxb hyn hg hx hy hz
      refine gz_iload hC dX7_commonDivisor_7 rfl ?_
      refine gz_bipush hC (64) dX7_commonDivisor_9 (by decide) ?_
      refine gz_icmp_ge hC 36 dX7_commonDivisor_11 (by decide) (fun c11 => ?_) (fun c11 => ?_)
      · exact absurd c11 (gz_inle (by rfl : (64 : Int32) = nI 64) hz (by omega) (by omega))
      · refine gz_iload_n hC dX7_commonDivisor_14 rfl ?_
        refine gz_if_le hC 36 dX7_commonDivisor_15 (by decide) (fun c15 => ?_) (fun c15 => ?_)
        · have hxz : xn = 0 := by rcases Nat.eq_zero_or_pos xn with q | q; exact q; exact absurd c15 (by rw [hx]; exact nI_nle q (by omega))
          refine gz_iload_n hC dX7_commonDivisor_36 rfl ?_
          exact gz_iret hC dX7_commonDivisor_37 ⟨gz_v (by rw [hy]; congr 1; rw [← hg, hxz, Nat.gcd_zero_left]), rfl⟩
        · have hxp : 0 < xn := by rcases Nat.eq_zero_or_pos xn with q | q; exact absurd (by rw [hx, q]; decide) c15; exact q
          have hml := Nat.mod_lt yn hxp
          refine gz_iload_n hC dX7_commonDivisor_18 rfl ?_
          refine gz_iload_n hC dX7_commonDivisor_19 rfl ?_
          refine gz_callS2 hC dX7_commonDivisor_20 ml_X7_205 (by decide) (by decide) (Nat.le_of_ble_eq_true rfl) (ct_X7_leftOver hJ _ _ _ _ yn xn hy hx (by omega) hxp (by omega)) (fun v20 M20 hp20 => ?_)
          obtain ⟨rfl, rfl⟩ := hp20
          refine gz_istore hC dX7_commonDivisor_23 (by decide) ?_
          refine gz_iload_n hC dX7_commonDivisor_25 rfl ?_
          refine gz_istore_n hC dX7_commonDivisor_26 (by decide) ?_
          refine gz_iload hC dX7_commonDivisor_27 rfl ?_
          refine gz_istore_n hC dX7_commonDivisor_29 (by decide) ?_
          refine gz_iinc hC (1) dX7_commonDivisor_30 rfl (by decide) (by decide) ?_
          refine gz_goto hC 7 dX7_commonDivisor_33 (by decide) ?_
          refine gz_lw [(0, .int a), (1, .int b), (2, .int x), (3, .int (nI (yn % xn))), (4, .int (z + 1))] ⟨rfl, rfl, rfl, rfl, rfl, trivial⟩ ?_
          exact ih (i + 1) (yn % xn) xn _ _ _ (by omega) (by omega) (by omega) (by omega) (by rw [← hg]; exact (Nat.gcd_rec xn yn).symm) rfl hx (gz_i1 hz)
  exact gz_lw [(0, .int a), (1, .int b), (2, .int b), (3, .int a), (4, .int 0)] ⟨rfl, rfl, rfl, rfl, rfl, trivial⟩ (lp x0 0 x0 y0 a b 0 (Nat.le_refl x0) (by omega) hx0 hy0 rfl ha hb rfl)
  -- places not laid: [9, 11, 14, 15, 18, 19, 20, 23, 25, 26, 27, 29, 30, 33, 36, 37]
set_option maxHeartbeats 4000000 in
set_option maxRecDepth 100000 in
theorem ct_X7_chance (hJ : gz_inj ad lx_lay) (I : Nat → Nat → Int32) (G : Nat → Nat → UInt64) (d0 d1 F : Nat) (w : Bool) (hO : cf_ok d0 d1 F) (hX : xi_tab d0 d1 F w I) (p0 h0 b0 w0 : Int32) : gz_Ct l D ad cy lx_lay yX7_chance cX7_chance 8 (some .int) 4 [.ref (ad 0), .int p0, .int h0, .int b0, .int w0] (I, G) (fun v M1 => v = some (.int (sp_chance d0 d1 F w p0 h0 b0 w0)) ∧ M1 = (I, G)) := by
  refine gz_met (by decide +kernel) hJ (Nat.le_of_ble_eq_true rfl) ?_
  intro p e s m args below meth c hC
  refine gz_aload_n hC dX7_chance_0 rfl ?_
  refine gz_iload_n hC dX7_chance_1 rfl ?_
  refine gz_iload_n hC dX7_chance_2 rfl ?_
  refine gz_callV2 hC dX7_chance_3 ml_X7_77 rfl rfl (by decide) (by decide) (Nat.le_of_ble_eq_true rfl) (ct_X7_isHand hJ _ _ d0 d1 F w hO hX _ _) (fun v3 M3 hp3 => ?_)
  obtain ⟨rfl, rfl⟩ := hp3
  refine gz_if_eq hC 27 dX7_chance_6 (by decide) (fun c6 => ?_) (fun c6 => ?_)
  · have q1 := gz_b0 c6
    refine gz_bipush hC (-2) dX7_chance_27 (by decide) ?_
    exact gz_iret hC dX7_chance_29 ⟨gz_v (by unfold sp_chance; first | (rw [q1, q2, q3]; rfl) | (rw [q1, q2]; rfl) | (rw [q1]; rfl)), rfl⟩
  · have q1 := gz_b1 c6
    obtain ⟨pl, hh, hpl, hk, hp0, hh0⟩ := sp_hd_t hO q1
    have T := tb_facts (cf_okP hO hpl)
    refine gz_aload_n hC dX7_chance_9 rfl ?_
    refine gz_iload_n hC dX7_chance_10 rfl ?_
    refine gz_callV1 hC dX7_chance_11 ml_X7_92 rfl rfl (by decide) (by decide) (Nat.le_of_ble_eq_true rfl) (ct_X7_isBid hJ _ _ d0 d1 F w hO hX _) (fun v11 M11 hp11 => ?_)
    obtain ⟨rfl, rfl⟩ := hp11
    refine gz_if_eq hC 27 dX7_chance_14 (by decide) (fun c14 => ?_) (fun c14 => ?_)
    · have q2 := gz_b0 c14
      refine gz_bipush hC (-2) dX7_chance_27 (by decide) ?_
      exact gz_iret hC dX7_chance_29 ⟨gz_v (by unfold sp_chance; first | (rw [q1, q2, q3]; rfl) | (rw [q1, q2]; rfl) | (rw [q1]; rfl)), rfl⟩
    · have q2 := gz_b1 c14
      obtain ⟨bb, hb, hb0⟩ := sp_bid_t hO q2
      have Bd := (cf_bids hO).2
      refine gz_iload hC dX7_chance_17 rfl ?_
      refine gz_iconst hC (0) dX7_chance_19 (by decide) ?_
      refine gz_iconst hC (1) dX7_chance_20 (by decide) ?_
      refine gz_callS3 hC dX7_chance_21 ml_X7_50 (by decide) (by decide) (Nat.le_of_ble_eq_true rfl) (ct_X7_within hJ _ _ _ _ _) (fun v21 M21 hp21 => ?_)
      obtain ⟨rfl, rfl⟩ := hp21
      refine gz_if_ne hC 30 dX7_chance_24 (by decide) (fun c24 => ?_) (fun c24 => ?_)
      · have q3 := gz_b1 c24
        obtain ⟨ww, hww, hw0⟩ := gz_in_2 q3
        refine gz_aload_n hC dX7_chance_30 rfl ?_
        refine gz_getR (j := 0) hC dX7_chance_31 cf_X7 fl_X7_12 rfl rfl (by decide) ?_
        refine gz_iload_n hC dX7_chance_34 rfl ?_
        refine gz_iload_n hC dX7_chance_35 rfl ?_
        refine gz_iload_n hC dX7_chance_36 rfl ?_
        refine gz_callV3 hC dX7_chance_37 ml_X7_98 rfl rfl (by decide) (by decide) (Nat.le_of_ble_eq_true rfl) (ct_X6_waysToHold hJ _ _ d0 d1 F w hO hX pl hh bb _ _ _ hpl hp0 hh0 hb0 hk hb) (fun v37 M37 hp37 => ?_)
        obtain ⟨rfl, rfl⟩ := hp37
        refine gz_istore hC dX7_chance_40 (by decide) ?_
        refine gz_aload_n hC dX7_chance_42 rfl ?_
        refine gz_getR (j := 0) hC dX7_chance_43 cf_X7 fl_X7_12 rfl rfl (by decide) ?_
        refine gz_iconst hC (1) dX7_chance_46 (by decide) ?_
        refine gz_iload_n hC dX7_chance_47 rfl ?_
        refine gz_isub hC dX7_chance_48 ?_
        refine gz_callV1 hC dX7_chance_49 ml_X7_68 rfl rfl (by decide) (by decide) (Nat.le_of_ble_eq_true rfl) (ct_X6_cup hJ _ _ _ (3 + 4 * (1 - pl)) (by rw [hp0]; match pl, hpl with | 0, _ => exact Or.inr ⟨by decide, rfl⟩ | 1, _ => exact Or.inl ⟨rfl, rfl⟩)) (fun v49 M49 hp49 => ?_)
        obtain ⟨rfl, rfl⟩ := hp49
        refine gz_callV0 hC dX7_chance_52 ml_X7_102 (lx_cupP (show 1 - pl < 2 by omega)).1 rfl (by decide) (by decide) (Nat.le_of_ble_eq_true rfl) (ct_X1_allWays hJ _ _ _ (lx_cupP (show 1 - pl < 2 by omega)) (tb_d d0 d1 (1 - pl)) F (xi_cupP hX (show 1 - pl < 2 by omega)).1 (xi_cupP hX (show 1 - pl < 2 by omega)).2.1 (by have := (tb_facts (cf_okP hO (show 1 - pl < 2 by omega))).2.2.2.2.2.1; omega)) (fun v52 M52 hp52 => ?_)
        obtain ⟨rfl, rfl⟩ := hp52
        refine gz_istore hC dX7_chance_55 (by decide) ?_
        refine gz_iload hC dX7_chance_57 rfl ?_
        refine gz_iload hC dX7_chance_59 rfl ?_
        have a1 := tb_ab_le hO w pl hh bb hpl
        have a2 := tb_be_in hO hpl
        have a3 : 0 < Nat.gcd (tb_ab d0 d1 F w pl hh bb) (tb_be d0 d1 F pl) := Nat.gcd_pos_of_pos_right _ a2.1
        have a4 : Nat.gcd (tb_ab d0 d1 F w pl hh bb) (tb_be d0 d1 F pl) ≤ tb_be d0 d1 F pl := Nat.gcd_le_right _ a2.1
        refine gz_callS2 hC dX7_chance_61 ml_X7_106 (by decide) (by decide) (Nat.le_of_ble_eq_true rfl) (ct_X7_commonDivisor hJ _ _ _ _ (tb_ab d0 d1 F w pl hh bb) (tb_be d0 d1 F pl) rfl rfl (by omega) (by omega)) (fun v61 M61 hp61 => ?_)
        obtain ⟨rfl, rfl⟩ := hp61
        refine gz_istore hC dX7_chance_64 (by decide) ?_
        refine gz_iload hC dX7_chance_66 rfl ?_
        refine gz_if_ne hC 76 dX7_chance_68 (by decide) (fun c68 => ?_) (fun c68 => ?_)
        · have hwz : ¬ ww = 0 := fun q => c68 (by rw [hw0, q]; rfl)
          refine gz_iload hC dX7_chance_76 rfl ?_
          refine gz_iload hC dX7_chance_78 rfl ?_
          refine gz_callS2 hC dX7_chance_80 ml_X7_109 (by decide) (by decide) (Nat.le_of_ble_eq_true rfl) (ct_X7_cut hJ _ _ _ _ (if ww = 0 then tb_ab d0 d1 F w pl hh bb else tb_be d0 d1 F pl) (Nat.gcd (tb_ab d0 d1 F w pl hh bb) (tb_be d0 d1 F pl)) (by first | (rw [if_pos hwz]; rfl) | (rw [if_neg hwz]; rfl)) rfl (by split <;> omega) a3 (by omega)) (fun v80 M80 hp80 => ?_)
          obtain ⟨rfl, rfl⟩ := hp80
          exact gz_iret hC dX7_chance_83 ⟨gz_v (by unfold sp_chance; rw [q1, q2, q3, hp0, hh0, hb0, hw0, nI_clamp (by omega), nI_clamp (by omega), nI_clamp (by omega), nI_clamp (by omega)]; rfl), rfl⟩
        · have hwz : ww = 0 := by rcases (show ww = 0 ∨ ww = 1 by omega) with q | q; exact q; exact absurd c68 (by rw [hw0, q]; decide)
          refine gz_iload hC dX7_chance_71 rfl ?_
          refine gz_goto hC 78 dX7_chance_73 (by decide) ?_
          refine gz_iload hC dX7_chance_78 rfl ?_
          refine gz_callS2 hC dX7_chance_80 ml_X7_109 (by decide) (by decide) (Nat.le_of_ble_eq_true rfl) (ct_X7_cut hJ _ _ _ _ (if ww = 0 then tb_ab d0 d1 F w pl hh bb else tb_be d0 d1 F pl) (Nat.gcd (tb_ab d0 d1 F w pl hh bb) (tb_be d0 d1 F pl)) (by first | (rw [if_pos hwz]; rfl) | (rw [if_neg hwz]; rfl)) rfl (by split <;> omega) a3 (by omega)) (fun v80 M80 hp80 => ?_)
          obtain ⟨rfl, rfl⟩ := hp80
          exact gz_iret hC dX7_chance_83 ⟨gz_v (by unfold sp_chance; rw [q1, q2, q3, hp0, hh0, hb0, hw0, nI_clamp (by omega), nI_clamp (by omega), nI_clamp (by omega), nI_clamp (by omega)]; rfl), rfl⟩
      · have q3 := gz_b0 c24
        refine gz_bipush hC (-2) dX7_chance_27 (by decide) ?_
        exact gz_iret hC dX7_chance_29 ⟨gz_v (by unfold sp_chance; first | (rw [q1, q2, q3]; rfl) | (rw [q1, q2]; rfl) | (rw [q1]; rfl)), rfl⟩
set_option maxHeartbeats 4000000 in
set_option maxRecDepth 100000 in
theorem ct_X7_surest (hJ : gz_inj ad lx_lay) (I : Nat → Nat → Int32) (G : Nat → Nat → UInt64) (d0 d1 F : Nat) (w : Bool) (hO : cf_ok d0 d1 F) (hX : xi_tab d0 d1 F w I) (p0 h0 a0 b0 : Int32) : gz_Ct l D ad cy lx_lay yX7_surest cX7_surest 7 (some .int) 4 [.ref (ad 0), .int p0, .int h0, .int a0, .int b0] (I, G) (fun v M1 => v = some (.int (sp_surest d0 d1 F w p0 h0 a0 b0)) ∧ M1 = (I, G)) := by
  refine gz_met (by decide +kernel) hJ (Nat.le_of_ble_eq_true rfl) ?_
  intro p e s m args below meth c hC
  refine gz_aload_n hC dX7_surest_0 rfl ?_
  refine gz_iload_n hC dX7_surest_1 rfl ?_
  refine gz_iload_n hC dX7_surest_2 rfl ?_
  refine gz_callV2 hC dX7_surest_3 ml_X7_77 rfl rfl (by decide) (by decide) (Nat.le_of_ble_eq_true rfl) (ct_X7_isHand hJ _ _ d0 d1 F w hO hX _ _) (fun v3 M3 hp3 => ?_)
  obtain ⟨rfl, rfl⟩ := hp3
  refine gz_if_eq hC 30 dX7_surest_6 (by decide) (fun c6 => ?_) (fun c6 => ?_)
  · have q1 := gz_b0 c6
    refine gz_bipush hC (-2) dX7_surest_30 (by decide) ?_
    exact gz_iret hC dX7_surest_32 ⟨gz_v (by unfold sp_surest; first | (rw [q1, q2, q3]; rfl) | (rw [q1, q2]; rfl) | (rw [q1]; rfl)), rfl⟩
  · have q1 := gz_b1 c6
    obtain ⟨pl, hh, hpl, hk, hp0, hh0⟩ := sp_hd_t hO q1
    have T := tb_facts (cf_okP hO hpl)
    refine gz_iload_n hC dX7_surest_9 rfl ?_
    refine gz_iconst hC (1) dX7_surest_10 (by decide) ?_
    refine gz_bipush hC (100) dX7_surest_11 (by decide) ?_
    refine gz_callS3 hC dX7_surest_13 ml_X7_50 (by decide) (by decide) (Nat.le_of_ble_eq_true rfl) (ct_X7_within hJ _ _ _ _ _) (fun v13 M13 hp13 => ?_)
    obtain ⟨rfl, rfl⟩ := hp13
    refine gz_if_eq hC 30 dX7_surest_16 (by decide) (fun c16 => ?_) (fun c16 => ?_)
    · have q2 := gz_b0 c16
      refine gz_bipush hC (-2) dX7_surest_30 (by decide) ?_
      exact gz_iret hC dX7_surest_32 ⟨gz_v (by unfold sp_surest; first | (rw [q1, q2, q3]; rfl) | (rw [q1, q2]; rfl) | (rw [q1]; rfl)), rfl⟩
    · have q2 := gz_b1 c16
      obtain ⟨aa, haa1, haa2, ha0⟩ := gz_in_m (a := 1) (b := 100) (by decide) (by decide) q2
      refine gz_iload hC dX7_surest_19 rfl ?_
      refine gz_iconst hC (1) dX7_surest_21 (by decide) ?_
      refine gz_bipush hC (100) dX7_surest_22 (by decide) ?_
      refine gz_callS3 hC dX7_surest_24 ml_X7_50 (by decide) (by decide) (Nat.le_of_ble_eq_true rfl) (ct_X7_within hJ _ _ _ _ _) (fun v24 M24 hp24 => ?_)
      obtain ⟨rfl, rfl⟩ := hp24
      refine gz_if_ne hC 33 dX7_surest_27 (by decide) (fun c27 => ?_) (fun c27 => ?_)
      · have q3 := gz_b1 c27
        obtain ⟨bb, hbb1, hbb2, hb0⟩ := gz_in_m (a := 1) (b := 100) (by decide) (by decide) q3
        refine gz_aload_n hC dX7_surest_33 rfl ?_
        refine gz_getR (j := 0) hC dX7_surest_34 cf_X7 fl_X7_12 rfl rfl (by decide) ?_
        refine gz_iconst hC (1) dX7_surest_37 (by decide) ?_
        refine gz_iload_n hC dX7_surest_38 rfl ?_
        refine gz_isub hC dX7_surest_39 ?_
        refine gz_callV1 hC dX7_surest_40 ml_X7_68 rfl rfl (by decide) (by decide) (Nat.le_of_ble_eq_true rfl) (ct_X6_cup hJ _ _ _ (3 + 4 * (1 - pl)) (by rw [hp0]; match pl, hpl with | 0, _ => exact Or.inr ⟨by decide, rfl⟩ | 1, _ => exact Or.inl ⟨rfl, rfl⟩)) (fun v40 M40 hp40 => ?_)
        obtain ⟨rfl, rfl⟩ := hp40
        refine gz_callV0 hC dX7_surest_43 ml_X7_102 (lx_cupP (show 1 - pl < 2 by omega)).1 rfl (by decide) (by decide) (Nat.le_of_ble_eq_true rfl) (ct_X1_allWays hJ _ _ _ (lx_cupP (show 1 - pl < 2 by omega)) (tb_d d0 d1 (1 - pl)) F (xi_cupP hX (show 1 - pl < 2 by omega)).1 (xi_cupP hX (show 1 - pl < 2 by omega)).2.1 (by have := (tb_facts (cf_okP hO (show 1 - pl < 2 by omega))).2.2.2.2.2.1; omega)) (fun v43 M43 hp43 => ?_)
        obtain ⟨rfl, rfl⟩ := hp43
        refine gz_istore hC dX7_surest_46 (by decide) ?_
        refine gz_aload_n hC dX7_surest_48 rfl ?_
        refine gz_getR (j := 0) hC dX7_surest_49 cf_X7 fl_X7_12 rfl rfl (by decide) ?_
        refine gz_getIN (j := 4) hC dX7_surest_52 cf_X6 fl_X7_60 rfl rfl (by decide) ?_
        refine gz_iconst hC (1) dX7_surest_55 (by decide) ?_
        rw [hX.2.1]
        refine gz_isub hC dX7_surest_56 ?_
        refine gz_istore hC dX7_surest_57 (by decide) ?_
        have Bd := (cf_bids hO)
        have a2 := tb_be_in hO hpl
        have hS : sp_surest d0 d1 F w p0 h0 a0 b0 = tb_su (fun k => decide (aa * tb_be d0 d1 F pl ≤ tb_ab d0 d1 F w pl hh k * bb)) ((d0 + d1) * F) := by
          unfold sp_surest
          rw [q1, q2, q3, hp0, hh0, ha0, hb0, nI_clamp (by omega), nI_clamp (by omega), nI_clamp (by omega), nI_clamp (by omega)]
          rfl
        have lp : ∀ (j : Nat) (hj : j ≤ (d0 + d1) * F) (z : Int32) (h1 : j = 0 → z = -1) (h2 : ∀ i, j = i + 1 → z = nI i) (hst : tb_su (fun k => decide (aa * tb_be d0 d1 F pl ≤ tb_ab d0 d1 F w pl hh k * bb)) ((d0 + d1) * F) = tb_su (fun k => decide (aa * tb_be d0 d1 F pl ≤ tb_ab d0 d1 F w pl hh k * bb)) j), gz_W p l e (gz_rm 4) s m args below meth c D ad cy lx_lay 7 (MQ below (gz_Q D ad cy lx_lay (fun v M1 => v = some (.int (sp_surest d0 d1 F w p0 h0 a0 b0)) ∧ M1 = (I, G))) args s 0 0 (gz_A ad lx_lay)) (I, G) 59 [(0, .ref (ad 0)), (1, .int p0), (2, .int h0), (3, .int a0), (4, .int b0), (5, .int (nI (tb_be d0 d1 F pl))), (6, .int z)] [] := by
          intro j
          induction j with
          | zero =>
            intro hj z h1 h2 hst
            refine gz_iload hC dX7_surest_59 rfl ?_
            refine gz_if_lt hC 94 dX7_surest_61 (by decide) (fun c61 => ?_) (fun c61 => ?_)
            · refine gz_iconst hC (-1) dX7_surest_94 (by decide) ?_
              exact gz_iret hC dX7_surest_95 ⟨gz_v (by rw [hS, hst]; rfl), rfl⟩
            · exact absurd (by rw [h1 rfl]; decide) c61
          | succ i ih =>
            intro hj z h1 h2 hst
            have hz := h2 i rfl
            refine gz_iload hC dX7_surest_59 rfl ?_
            refine gz_if_lt hC 94 dX7_surest_61 (by decide) (fun c61 => ?_) (fun c61 => ?_)
            · exact absurd c61 (by rw [hz]; exact nI_pos (by omega))
            · refine gz_aload_n hC dX7_surest_64 rfl ?_
              refine gz_getR (j := 0) hC dX7_surest_65 cf_X7 fl_X7_12 rfl rfl (by decide) ?_
              refine gz_iload_n hC dX7_surest_68 rfl ?_
              refine gz_iload_n hC dX7_surest_69 rfl ?_
              refine gz_iload hC dX7_surest_70 rfl ?_
              refine gz_callV3 hC dX7_surest_72 ml_X7_98 rfl rfl (by decide) (by decide) (Nat.le_of_ble_eq_true rfl) (ct_X6_waysToHold hJ _ _ d0 d1 F w hO hX pl hh i _ _ _ hpl hp0 hh0 hz hk (by omega)) (fun v72 M72 hp72 => ?_)
              obtain ⟨rfl, rfl⟩ := hp72
              refine gz_iload hC dX7_surest_75 rfl ?_
              refine gz_imul hC dX7_surest_77 ?_
              refine gz_iload_n hC dX7_surest_78 rfl ?_
              refine gz_iload hC dX7_surest_79 rfl ?_
              refine gz_imul hC dX7_surest_81 ?_
              have a1 := tb_ab_le hO w pl hh i hpl
              have m1 : tb_ab d0 d1 F w pl hh i * bb ≤ 24 * 100 := Nat.mul_le_mul a1 hbb2
              have m2 : aa * tb_be d0 d1 F pl ≤ 100 * 8 := Nat.mul_le_mul haa2 a2.2
              rw [show tb_wh d0 d1 F w pl hh i (tb_n (tb_d d0 d1 (1 - pl)) F) = tb_ab d0 d1 F w pl hh i from rfl, ha0, hb0, pk_mul, pk_mul]
              refine gz_icmp_lt hC 88 dX7_surest_82 (by decide) (fun c82 => ?_) (fun c82 => ?_)
              · have c83 : ¬ aa * tb_be d0 d1 F pl ≤ tb_ab d0 d1 F w pl hh i * bb := fun q => nI_nlt q (by omega) c82
                refine gz_iinc hC (-1) dX7_surest_88 rfl (by decide) (by decide) ?_
                refine gz_goto hC 59 dX7_surest_91 (by decide) ?_
                refine gz_lw [(0, .ref (ad 0)), (1, .int p0), (2, .int h0), (3, .int (nI aa)), (4, .int (nI bb)), (5, .int (nI (tb_be d0 d1 F pl))), (6, .int (z + (-1)))] ⟨rfl, rfl, rfl, by rw [← ha0]; rfl, by rw [← hb0]; rfl, rfl, rfl, trivial⟩ ?_
                rw [← ha0, ← hb0]
                exact ih (by omega) (z + (-1)) (fun h0 => by subst h0; rw [hz]; rfl) (fun q hq => by subst hq; rw [hz]; exact pk_m1 q) (by rw [hst]; show cond (decide _) _ _ = _; rw [decide_eq_false c83]; rfl)
              · have c83 : aa * tb_be d0 d1 F pl ≤ tb_ab d0 d1 F w pl hh i * bb := by rcases Nat.lt_or_ge (tb_ab d0 d1 F w pl hh i * bb) (aa * tb_be d0 d1 F pl) with q | q; exact absurd (nI_lt q (by omega)) c82; exact q
                refine gz_iload hC dX7_surest_85 rfl ?_
                exact gz_iret hC dX7_surest_87 ⟨gz_v (by rw [← ha0, ← hb0, hS, hst, hz]; show _ = cond (decide _) _ _; rw [decide_eq_true c83]; rfl), rfl⟩
        refine gz_lw [(0, .ref (ad 0)), (1, .int p0), (2, .int h0), (3, .int a0), (4, .int b0), (5, .int (nI (tb_be d0 d1 F pl))), (6, .int (nI ((d0 + d1) * F) - 1))] ⟨rfl, rfl, rfl, rfl, rfl, rfl, rfl, trivial⟩ ?_
        exact lp ((d0 + d1) * F) (Nat.le_refl _) _ (fun q => by omega) (fun i hi => by rw [hi]; exact nI_pred i) rfl
      · have q3 := gz_b0 c27
        refine gz_bipush hC (-2) dX7_surest_30 (by decide) ?_
        exact gz_iret hC dX7_surest_32 ⟨gz_v (by unfold sp_surest; first | (rw [q1, q2, q3]; rfl) | (rw [q1, q2]; rfl) | (rw [q1]; rfl)), rfl⟩
  -- places not laid: [61, 64, 65, 68, 69, 70, 72, 75, 77, 78, 79, 81, 82, 85, 87, 88, 91, 94, 95]
end CT
