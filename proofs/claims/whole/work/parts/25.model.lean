/-! the model: small methods, and its hands -/
/-- the digit at place k of a code -/
def mh_d (F d code k : Nat) : Nat := code / F ^ (d - (k + 1)) % F
def mh_u (F d code i : Nat) : Bool := decide (∀ k, k < d → (i ≤ k → (k + 1 = d ∨ mh_d F d code k ≤ mh_d F d code (k + 1))))
def mh_n (F d : Nat) : Nat → Nat
  | 0 => 0
  | k + 1 => mh_n F d k + cond (mh_u F d k 0) 1 0
def mh_at (F d h : Nat) : Nat → Nat
  | 0 => 0
  | k + 1 => cond (mh_u F d k 0 && decide (mh_n F d k = h)) k (mh_at F d h k)
def mh_ok (d F : Nat) : Prop := mh_n F d (F ^ d) = tb_n d F ∧ (∀ k, k < F ^ d → mh_n F d k ≤ 4 ∧ (mh_u F d k 0 = true → mh_n F d k < 4)) ∧ F ^ d ≤ 8 ∧ ∀ h, h < tb_n d F → mh_at F d h (F ^ d) < F ^ d ∧ mh_u F d (mh_at F d h (F ^ d)) 0 = true ∧ mh_n F d (mh_at F d h (F ^ d)) = h ∧ (∀ f, f < 4 → tb_cnt (mh_d F d (mh_at F d h (F ^ d))) d f = tb_cnt (tb_rw d F h) d f) ∧ tb_ord (mh_d F d (mh_at F d h (F ^ d))) d 4 = tb_w d F h
theorem mh_all {d F : Nat} (h : tb_ok d F) : mh_ok d F := by
  unfold mh_ok
  rcases h with ⟨rfl, rfl⟩ | ⟨rfl, rfl⟩ | ⟨rfl, rfl⟩ | ⟨rfl, rfl⟩ | ⟨rfl, rfl⟩ <;> decide +kernel
theorem mh_u_d {F d code : Nat} : mh_u F d code d = true := decide_eq_true (fun k hk h => absurd h (by omega))
theorem mh_u_s {F d code i : Nat} (hi : i < d) : mh_u F d code i = (mh_u F d code (i + 1) && (decide (i + 1 = d) || decide (mh_d F d code i ≤ mh_d F d code (i + 1)))) := by
  unfold mh_u
  rw [← Bool.decide_or, ← Bool.decide_and]
  apply decide_eq_decide.mpr
  constructor
  · intro h
    exact ⟨fun k hk h2 => h k hk (by omega), h i hi (Nat.le_refl i)⟩
  · intro h k hk h2
    by_cases e : k = i
    · subst e; exact h.2
    · exact h.1 k hk (by omega)
theorem mh_n_lt {F d a : Nat} (h : mh_u F d a 0 = true) : ∀ b, a < b → mh_n F d a + 1 ≤ mh_n F d b
  | 0, hb => absurd hb (Nat.not_lt_zero a)
  | b + 1, hb => by
    show _ ≤ mh_n F d b + cond (mh_u F d b 0) 1 0
    by_cases e : a = b
    · subst e
      rw [h]
      exact Nat.le_refl _
    · exact Nat.le_trans (mh_n_lt h b (by omega)) (Nat.le_add_right _ _)
def xm_h (pl d F : Nat) (I : Nat → Nat → Int32) : Prop := I 2 pl = nI (tb_n d F) ∧ (∀ h, h < tb_n d F → ∀ f, f < 4 → I 1 (16 * pl + 4 * h + f) = nI (tb_cnt (tb_rw d F h) d f)) ∧ ∀ h, h < tb_n d F → I 3 (4 * pl + h) = nI (tb_w d F h)
def xm_c (d0 d1 F : Nat) (w : Bool) (I : Nat → Nat → Int32) : Prop := I 0 0 = nI d0 ∧ I 0 1 = nI d1 ∧ I 0 2 = nI F ∧ I 0 3 = gz_b w
def xm_tab (d0 d1 F : Nat) (w : Bool) (I : Nat → Nat → Int32) : Prop := xm_c d0 d1 F w I ∧ xm_h 0 d0 F I ∧ xm_h 1 d1 F I
theorem xm_hP {d0 d1 F : Nat} {w : Bool} {I : Nat → Nat → Int32} (h : xm_tab d0 d1 F w I) {pl : Nat} (hp : pl < 2) : xm_h pl (tb_d d0 d1 pl) F I := by
  match pl, hp with
  | 0, _ => exact h.2.1
  | 1, _ => exact h.2.2
/-- what laying the hands of one player leaves alone -/
def xm_k (pl o j : Nat) : Prop := (o ≠ 1 ∨ j < 16 * pl ∨ 16 * pl + 16 ≤ j) ∧ (o ≠ 2 ∨ j ≠ pl) ∧ (o ≠ 3 ∨ j < 4 * pl ∨ 4 * pl + 4 ≤ j) ∧ o ≠ 6
theorem xm_h_fr {pl d F : Nat} {I J : Nat → Nat → Int32} (h : xm_h pl d F I) (hT : tb_ok d F) (hf : ∀ o j, o = 1 ∧ 16 * pl ≤ j ∧ j < 16 * pl + 16 ∨ o = 2 ∧ j = pl ∨ o = 3 ∧ 4 * pl ≤ j ∧ j < 4 * pl + 4 → J o j = I o j) : xm_h pl d F J := by
  have h4 := (tb_facts hT).2.2.2.2.1
  exact ⟨by rw [hf 2 pl (by omega)]; exact h.1, fun h2 hh f hff => by rw [hf 1 _ (by omega)]; exact h.2.1 h2 hh f hff, fun h2 hh => by rw [hf 3 _ (by omega)]; exact h.2.2 h2 hh⟩
theorem gz_up2 {f : Nat → Nat → Int32} {k j o q : Nat} {v : Int32} (h : o ≠ k ∨ q ≠ j) : gz_up f k j v o q = f o q := by
  by_cases e : o = k
  · subst e; exact gz_up_oth (by omega)
  · exact gz_up_at e
section CT
variable {l : Launch} {D : va_G} {ad : Nat → Nat} {cy : Nat → ClassId}
set_option maxHeartbeats 4000000 in
set_option maxRecDepth 100000 in
theorem ct_X8_in (hJ : gz_inj ad lm_lay) (I : Nat → Nat → Int32) (G : Nat → Nat → UInt64) (x lo hi : Int32) : gz_Ct l D ad cy lm_lay yX8_in cX8_in 3 (some .boolean) 0 [.int x, .int lo, .int hi] (I, G) (fun v M1 => v = some (.int (gz_b (gz_in x lo hi))) ∧ M1 = (I, G)) := by
  refine gz_met (by decide +kernel) hJ (Nat.le_of_ble_eq_true rfl) ?_
  intro p e s m args below meth c hC
  refine gz_iload_n hC dX8_in_0 rfl ?_
  refine gz_iload_n hC dX8_in_1 rfl ?_
  refine gz_icmp_lt hC 14 dX8_in_2 (by decide) (fun c2 => ?_) (fun c2 => ?_)
  · refine gz_iconst hC (0) dX8_in_14 (by decide) ?_
    exact gz_zret rfl hC dX8_in_15 ⟨gz_v (by simp [gz_in, gz_b, *]), rfl⟩
  · refine gz_iload_n hC dX8_in_5 rfl ?_
    refine gz_iload_n hC dX8_in_6 rfl ?_
    refine gz_icmp_gt hC 14 dX8_in_7 (by decide) (fun c7 => ?_) (fun c7 => ?_)
    · refine gz_iconst hC (0) dX8_in_14 (by decide) ?_
      exact gz_zret rfl hC dX8_in_15 ⟨gz_v (by simp [gz_in, gz_b, *]), rfl⟩
    · refine gz_iconst hC (1) dX8_in_10 (by decide) ?_
      refine gz_goto hC 15 dX8_in_11 (by decide) ?_
      exact gz_zret rfl hC dX8_in_15 ⟨gz_v (by simp [gz_in, gz_b, *]), rfl⟩
set_option maxHeartbeats 4000000 in
set_option maxRecDepth 100000 in
theorem ct_X8_isPlayer (hJ : gz_inj ad lm_lay) (I : Nat → Nat → Int32) (G : Nat → Nat → UInt64) (x : Int32) : gz_Ct l D ad cy lm_lay yX8_isPlayer cX8_isPlayer 1 (some .boolean) 1 [.int x] (I, G) (fun v M1 => v = some (.int (gz_b (gz_in x 0 1))) ∧ M1 = (I, G)) := by
  refine gz_met (by decide +kernel) hJ (Nat.le_of_ble_eq_true rfl) ?_
  intro p e s m args below meth c hC
  refine gz_iload_n hC dX8_isPlayer_0 rfl ?_
  refine gz_iconst hC (0) dX8_isPlayer_1 (by decide) ?_
  refine gz_iconst hC (1) dX8_isPlayer_2 (by decide) ?_
  refine gz_callS3 hC dX8_isPlayer_3 ml_X8_82 (by decide) (by decide) (Nat.le_of_ble_eq_true rfl) (ct_X8_in hJ _ _ _ _ _) (fun v3 M3 hp3 => ?_)
  obtain ⟨rfl, rfl⟩ := hp3
  exact gz_zret (gz_bn _) hC dX8_isPlayer_6 ⟨rfl, rfl⟩
set_option maxHeartbeats 4000000 in
set_option maxRecDepth 100000 in
theorem ct_X8_isPlan (hJ : gz_inj ad lm_lay) (I : Nat → Nat → Int32) (G : Nat → Nat → UInt64) (x : Int32) : gz_Ct l D ad cy lm_lay yX8_isPlan cX8_isPlan 1 (some .boolean) 1 [.int x] (I, G) (fun v M1 => v = some (.int (gz_b (gz_in x 0 3))) ∧ M1 = (I, G)) := by
  refine gz_met (by decide +kernel) hJ (Nat.le_of_ble_eq_true rfl) ?_
  intro p e s m args below meth c hC
  refine gz_iload_n hC dX8_isPlan_0 rfl ?_
  refine gz_iconst hC (0) dX8_isPlan_1 (by decide) ?_
  refine gz_iconst hC (3) dX8_isPlan_2 (by decide) ?_
  refine gz_callS3 hC dX8_isPlan_3 ml_X8_82 (by decide) (by decide) (Nat.le_of_ble_eq_true rfl) (ct_X8_in hJ _ _ _ _ _) (fun v3 M3 hp3 => ?_)
  obtain ⟨rfl, rfl⟩ := hp3
  exact gz_zret (gz_bn _) hC dX8_isPlan_6 ⟨rfl, rfl⟩
set_option maxHeartbeats 4000000 in
set_option maxRecDepth 100000 in
theorem ct_X8_dice (hJ : gz_inj ad lm_lay) (I : Nat → Nat → Int32) (G : Nat → Nat → UInt64) (d0 d1 F : Nat) (w : Bool) (hX : xm_c d0 d1 F w I) (pl : Nat) (hp : pl < 2) (x : Int32) (hx : x = nI pl) : gz_Ct l D ad cy lm_lay yX8_dice cX8_dice 2 (some .int) 0 [.ref (ad 0), .int x] (I, G) (fun v M1 => v = some (.int (nI (tb_d d0 d1 pl))) ∧ M1 = (I, G)) := by
  refine gz_met (by decide +kernel) hJ (Nat.le_of_ble_eq_true rfl) ?_
  intro p e s m args below meth c hC
  refine gz_iload_n hC dX8_dice_0 rfl ?_
  refine gz_if_ne hC 11 dX8_dice_1 (by decide) (fun c1 => ?_) (fun c1 => ?_)
  · have e : pl = 1 := by rcases (show pl = 0 ∨ pl = 1 by omega) with q | q; exact absurd (hx.trans (by rw [q]; rfl)) c1; exact q
    subst e
    refine gz_aload_n hC dX8_dice_11 rfl ?_
    refine gz_getI (j := 1) hC dX8_dice_12 cf_X8 fl_X8_13 rfl rfl (by decide) ?_
    exact gz_iret hC dX8_dice_15 (by first | exact ⟨gz_v hX.1, rfl⟩ | exact ⟨gz_v hX.2.1, rfl⟩)
  · have e : pl = 0 := by rcases (show pl = 0 ∨ pl = 1 by omega) with q | q; exact q; exact absurd (hx.symm.trans c1) (by rw [q]; decide)
    subst e
    refine gz_aload_n hC dX8_dice_4 rfl ?_
    refine gz_getI (j := 0) hC dX8_dice_5 cf_X8 fl_X8_7 rfl rfl (by decide) ?_
    refine gz_goto hC 15 dX8_dice_8 (by decide) ?_
    exact gz_iret hC dX8_dice_15 (by first | exact ⟨gz_v hX.1, rfl⟩ | exact ⟨gz_v hX.2.1, rfl⟩)
set_option maxHeartbeats 4000000 in
set_option maxRecDepth 100000 in
theorem ct_X8_most (hJ : gz_inj ad lm_lay) (I : Nat → Nat → Int32) (G : Nat → Nat → UInt64) (d0 d1 F : Nat) (w : Bool) (hX : xm_c d0 d1 F w I) : gz_Ct l D ad cy lm_lay yX8_most cX8_most 1 (some .int) 0 [.ref (ad 0)] (I, G) (fun v M1 => v = some (.int (nI ((d0 + d1) * F))) ∧ M1 = (I, G)) := by
  refine gz_met (by decide +kernel) hJ (Nat.le_of_ble_eq_true rfl) ?_
  intro p e s m args below meth c hC
  refine gz_aload_n hC dX8_most_0 rfl ?_
  refine gz_getI (j := 0) hC dX8_most_1 cf_X8 fl_X8_7 rfl rfl (by decide) ?_
  refine gz_aload_n hC dX8_most_4 rfl ?_
  refine gz_getI (j := 1) hC dX8_most_5 cf_X8 fl_X8_13 rfl rfl (by decide) ?_
  refine gz_iadd hC dX8_most_8 ?_
  refine gz_aload_n hC dX8_most_9 rfl ?_
  refine gz_getI (j := 2) hC dX8_most_10 cf_X8 fl_X8_16 rfl rfl (by decide) ?_
  refine gz_imul hC dX8_most_13 ?_
  exact gz_iret hC dX8_most_14 ⟨gz_v (by rw [hX.1, hX.2.1, hX.2.2.1, nI_add, pk_mul]), rfl⟩
set_option maxHeartbeats 4000000 in
set_option maxRecDepth 100000 in
theorem ct_X8_product (hJ : gz_inj ad lm_lay) (I : Nat → Nat → Int32) (G : Nat → Nat → UInt64) (n : Nat) (hn : n ≤ 3) (x : Int32) (hx : x = nI n) : gz_Ct l D ad cy lm_lay yX8_product cX8_product 1 (some .int) 0 [.int x] (I, G) (fun v M1 => v = some (.int (nI (tb_fac n))) ∧ M1 = (I, G)) := by
  refine gz_met (by decide +kernel) hJ (Nat.le_of_ble_eq_true rfl) ?_
  intro p e s m args below meth c hC
  refine gz_iload_n hC dX8_product_0 rfl ?_
  refine gz_iconst hC (2) dX8_product_1 (by decide) ?_
  refine gz_icmp_ge hC 9 dX8_product_2 (by decide) (fun c2 => ?_) (fun c2 => ?_)
  · refine gz_iload_n hC dX8_product_9 rfl ?_
    refine gz_iconst hC (2) dX8_product_10 (by decide) ?_
    refine gz_icmp_ne hC 18 dX8_product_11 (by decide) (fun c11 => ?_) (fun c11 => ?_)
    · refine gz_bipush hC (6) dX8_product_18 (by decide) ?_
      exact gz_iret hC dX8_product_20 (by rcases (show n = 0 ∨ n = 1 ∨ n = 2 ∨ n = 3 by omega) with rfl | rfl | rfl | rfl <;> subst hx <;> first | exact ⟨rfl, rfl⟩ | exact absurd c2 (by decide) | exact absurd c11 (by decide))
    · refine gz_iconst hC (2) dX8_product_14 (by decide) ?_
      refine gz_goto hC 20 dX8_product_15 (by decide) ?_
      exact gz_iret hC dX8_product_20 (by rcases (show n = 0 ∨ n = 1 ∨ n = 2 ∨ n = 3 by omega) with rfl | rfl | rfl | rfl <;> subst hx <;> first | exact ⟨rfl, rfl⟩ | exact absurd c2 (by decide) | exact absurd c11 (by decide))
  · refine gz_iconst hC (1) dX8_product_5 (by decide) ?_
    refine gz_goto hC 20 dX8_product_6 (by decide) ?_
    exact gz_iret hC dX8_product_20 (by rcases (show n = 0 ∨ n = 1 ∨ n = 2 ∨ n = 3 by omega) with rfl | rfl | rfl | rfl <;> subst hx <;> first | exact ⟨rfl, rfl⟩ | exact absurd c2 (by decide) | exact absurd c11 (by decide))
set_option maxHeartbeats 4000000 in
set_option maxRecDepth 100000 in
theorem ct_X8_layHands (hJ : gz_inj ad lm_lay) (I : Nat → Nat → Int32) (G : Nat → Nat → UInt64) (d0 d1 F : Nat) (w : Bool) (hX : xm_c d0 d1 F w I) (pl d : Nat) (hp : pl < 2) (hd : d = tb_d d0 d1 pl) (hT : tb_ok d F) (x1 : Int32) (hx1 : x1 = nI pl) : gz_Ct l D ad cy lm_lay yX8_layHands cX8_layHands 12 none 1 [.ref (ad 0), .int x1] (I, G) (fun v M1 => ∃ I1, v = none ∧ M1 = (I1, G) ∧ xm_h pl d F I1 ∧ ∀ o j, xm_k pl o j → I1 o j = I o j) := by
  have hM := mh_all hT
  obtain ⟨T1, T2, T3, T4, T5, hd3, hF4, hd1, hF2⟩ := tb_facts hT
  have hF := hX.2.2.1
  have hM8 := hM.2.2.1
  refine gz_met (by decide +kernel) hJ (Nat.le_of_ble_eq_true rfl) ?_
  intro p e s m args below meth c hC
  refine gz_aload_n hC dX8_layHands_0 rfl ?_
  refine gz_iload_n hC dX8_layHands_1 rfl ?_
  refine gz_callV1 hC dX8_layHands_2 ml_X8_67 rfl rfl (by decide) (by decide) (Nat.le_of_ble_eq_true rfl) (ct_X8_dice hJ _ _ d0 d1 F w hX pl hp _ hx1) (fun v2 M2 hp2 => ?_)
  obtain ⟨rfl, rfl⟩ := hp2
  rw [← hd]
  obtain ⟨x2, hx2⟩ : ∃ z, z = nI d := ⟨_, rfl⟩
  rw [← hx2]
  refine gz_istore_n hC dX8_layHands_5 (by decide) ?_
  refine gz_iconst hC (1) dX8_layHands_6 (by decide) ?_
  refine gz_istore_n hC dX8_layHands_7 (by decide) ?_
  refine gz_iconst hC (0) dX8_layHands_8 (by decide) ?_
  refine gz_istore hC dX8_layHands_9 (by decide) ?_
  have lpp : ∀ (n i : Nat) (x3 x4 : Int32) (hi : i + n = d) (hx4 : x4 = nI i) (hx3 : x3 = nI (F ^ i)), gz_W p l e (gz_rm 1) s m args below meth c D ad cy lm_lay 12 (MQ below (gz_Q D ad cy lm_lay (fun v M1 => ∃ I1, v = none ∧ M1 = (I1, G) ∧ xm_h pl d F I1 ∧ ∀ o j, xm_k pl o j → I1 o j = I o j)) args s 0 0 (gz_A ad lm_lay)) (I, G) 11 [(0, .ref (ad 0)), (1, .int x1), (2, .int x2), (3, .int x3), (4, .int x4)] [] := by
    intro n
    induction n with
    | zero =>
      intro i x3 x4 hi hx4 hx3
      refine gz_iload hC dX8_layHands_11 rfl ?_
      refine gz_iload_n hC dX8_layHands_13 rfl ?_
      refine gz_icmp_ge hC 30 dX8_layHands_14 (by decide) (fun c14 => ?_) (fun c14 => ?_)
      · refine gz_iconst hC (0) dX8_layHands_30 (by decide) ?_
        refine gz_istore hC dX8_layHands_31 (by decide) ?_
        refine gz_iconst hC (0) dX8_layHands_33 (by decide) ?_
        refine gz_istore hC dX8_layHands_34 (by decide) ?_
        have hx3b : x3 = nI (F ^ d) := by rw [hx3, show i = d by omega]
        clear hx3 hx4 hi
        have hx3 := hx3b
        have lpc : ∀ (n1 code : Nat) (J : Nat → Nat → Int32) (x4 x5 : Int32) (hi1 : code + n1 = F ^ d) (hx5 : x5 = nI code) (hx4 : x4 = nI (mh_n F d code)) (hf : ∀ o j, xm_k pl o j → J o j = I o j) (hdn : ∀ c2, c2 < code → mh_u F d c2 0 = true → (∀ f2, f2 < 4 → J 1 (16 * pl + 4 * mh_n F d c2 + f2) = nI (tb_cnt (mh_d F d c2) d f2)) ∧ J 3 (4 * pl + mh_n F d c2) = nI (tb_ord (mh_d F d c2) d 4)), gz_W p l e (gz_rm 1) s m args below meth c D ad cy lm_lay 12 (MQ below (gz_Q D ad cy lm_lay (fun v M1 => ∃ I1, v = none ∧ M1 = (I1, G) ∧ xm_h pl d F I1 ∧ ∀ o j, xm_k pl o j → I1 o j = I o j)) args s 0 0 (gz_A ad lm_lay)) (J, G) 36 [(0, .ref (ad 0)), (1, .int x1), (2, .int x2), (3, .int x3), (4, .int x4), (5, .int x5)] [] := by
          intro n1
          induction n1 with
          | zero =>
            intro code J x4 x5 hi1 hx5 hx4 hf hdn
            refine gz_iload hC dX8_layHands_36 rfl ?_
            refine gz_iload_n hC dX8_layHands_38 rfl ?_
            refine gz_icmp_ge hC 244 dX8_layHands_39 (by decide) (fun c39 => ?_) (fun c39 => ?_)
            · refine gz_aload_n hC dX8_layHands_244 rfl ?_
              refine gz_getR (j := 5) hC dX8_layHands_245 cf_X8 fl_X8_23 rfl rfl (by decide) ?_
              refine gz_iload_n hC dX8_layHands_248 rfl ?_
              refine gz_iload hC dX8_layHands_249 rfl ?_
              refine gz_iast hC dX8_layHands_251 rfl (by rw [hx1]; exact vp_in_nI (by omega) (by decide)) ?_
              exact gz_vret hC dX8_layHands_252 ⟨_, rfl, rfl, ⟨by rw [hx1, nI_clamp (by omega), gz_up_self, hx4, show code = F ^ d by omega, hM.1], fun h hh f hf4 => by
      obtain ⟨a1, a2, a3, a4, a5⟩ := hM.2.2.2 h hh
      have e := (hdn _ (by omega) a2).1 f hf4
      rw [a3] at e
      rw [gz_up_at (by decide), e, a4 f hf4], fun h hh => by
      obtain ⟨a1, a2, a3, a4, a5⟩ := hM.2.2.2 h hh
      have e := (hdn _ (by omega) a2).2
      rw [a3] at e
      rw [gz_up_at (by decide), e, a5]⟩, fun o j h => by rw [gz_up2 (by rw [hx1, nI_clamp (by omega)]; unfold xm_k at h; omega)]; exact hf o j h⟩
            · exact absurd (gz_ile hx3 hx5 (by omega) (by omega)) c39
          | succ n1 ihc =>
            intro code J x4 x5 hi1 hx5 hx4 hf hdn
            refine gz_iload hC dX8_layHands_36 rfl ?_
            refine gz_iload_n hC dX8_layHands_38 rfl ?_
            refine gz_icmp_ge hC 244 dX8_layHands_39 (by decide) (fun c39 => ?_) (fun c39 => ?_)
            · exact absurd c39 (gz_inle hx3 hx5 (by omega) (by omega))
            · refine gz_iload hC dX8_layHands_42 rfl ?_
              refine gz_istore hC dX8_layHands_44 (by decide) ?_
              refine gz_iconst hC (1) dX8_layHands_46 (by decide) ?_
              refine gz_istore hC dX8_layHands_47 (by decide) ?_
              refine gz_iload_n hC dX8_layHands_49 rfl ?_
              refine gz_iconst hC (1) dX8_layHands_50 (by decide) ?_
              refine gz_isub hC dX8_layHands_51 ?_
              refine gz_istore hC dX8_layHands_52 (by decide) ?_
              have mh_dF : ∀ k, mh_d F d code k < F := fun k => Nat.mod_lt _ (by omega)
              have hn5 := (hM.2.1 code (by omega)).1
              have rest238 : ∀ (J : Nat → Nat → Int32) (x4 : Int32) (hx4 : x4 = nI (mh_n F d (code + 1))) (hf : ∀ o j, xm_k pl o j → J o j = I o j) (hdn : ∀ c2, c2 < code + 1 → mh_u F d c2 0 = true → (∀ f2, f2 < 4 → J 1 (16 * pl + 4 * mh_n F d c2 + f2) = nI (tb_cnt (mh_d F d c2) d f2)) ∧ J 3 (4 * pl + mh_n F d c2) = nI (tb_ord (mh_d F d c2) d 4)), gz_W p l e (gz_rm 1) s m args below meth c D ad cy lm_lay 12 (MQ below (gz_Q D ad cy lm_lay (fun v M1 => ∃ I1, v = none ∧ M1 = (I1, G) ∧ xm_h pl d F I1 ∧ ∀ o j, xm_k pl o j → I1 o j = I o j)) args s 0 0 (gz_A ad lm_lay)) (J, G) 238 [(0, .ref (ad 0)), (1, .int x1), (2, .int x2), (3, .int x3), (4, .int x4), (5, .int x5)] [] := by
                intro J x4 hx4 hf hdn
                refine gz_iinc hC (1) dX8_layHands_238 rfl (by decide) (by decide) ?_
                refine gz_goto hC 36 dX8_layHands_241 (by decide) ?_
                refine gz_lw [(0, .ref (ad 0)), (1, .int x1), (2, .int x2), (3, .int x3), (4, .int x4), (5, .int (x5 + 1))] ⟨rfl, rfl, rfl, rfl, rfl, rfl, trivial⟩ ?_
                exact ihc (code + 1) J _ _ (by omega) (gz_i1 hx5) hx4 hf hdn
              have lpd : ∀ (j : Nat) (hj : j ≤ d) (J2 : Nat → Nat → Int32) (x6 x7 x8 : Int32) (z1 : j = 0 → x8 = -1) (z2 : ∀ i, j = i + 1 → x8 = nI i) (hx6 : x6 = nI (code / F ^ (d - j))) (hx7 : x7 = gz_b (mh_u F d code j)) (hrow : ∀ k, j ≤ k → k < d → J2 6 k = nI (mh_d F d code k)) (hf : ∀ o j, xm_k pl o j → J2 o j = I o j) (hdn : ∀ c2, c2 < code → mh_u F d c2 0 = true → (∀ f2, f2 < 4 → J2 1 (16 * pl + 4 * mh_n F d c2 + f2) = nI (tb_cnt (mh_d F d c2) d f2)) ∧ J2 3 (4 * pl + mh_n F d c2) = nI (tb_ord (mh_d F d c2) d 4)), gz_W p l e (gz_rm 1) s m args below meth c D ad cy lm_lay 12 (MQ below (gz_Q D ad cy lm_lay (fun v M1 => ∃ I1, v = none ∧ M1 = (I1, G) ∧ xm_h pl d F I1 ∧ ∀ o j, xm_k pl o j → I1 o j = I o j)) args s 0 0 (gz_A ad lm_lay)) (J2, G) 54 [(0, .ref (ad 0)), (1, .int x1), (2, .int x2), (3, .int x3), (4, .int x4), (5, .int x5), (6, .int x6), (7, .int x7), (8, .int x8)] [] := by
                intro j
                induction j with
                | zero =>
                  intro hj J2 x6 x7 x8 z1 z2 hx6 hx7 hrow hf hdn
                  refine gz_iload hC dX8_layHands_54 rfl ?_
                  refine gz_if_lt hC 127 dX8_layHands_56 (by decide) (fun c56 => ?_) (fun c56 => ?_)
                  · refine gz_iload hC dX8_layHands_127 rfl ?_
                    refine gz_if_eq hC 238 dX8_layHands_129 (by decide) (fun c129 => ?_) (fun c129 => ?_)
                    · have hb := gz_b0 (hx7.symm.trans c129)
                      refine gz_lw [(0, .ref (ad 0)), (1, .int x1), (2, .int x2), (3, .int x3), (4, .int x4), (5, .int x5)] ⟨rfl, rfl, rfl, rfl, rfl, rfl, trivial⟩ ?_
                      exact rest238 J2 x4 (by rw [hx4]; show _ = nI (mh_n F d code + cond (mh_u F d code 0) 1 0); rw [hb]; rfl) hf (fun c2 hc2 hu2 => by
                        by_cases e : c2 = code
                        · subst e; rw [hb] at hu2; cases hu2
                        · exact hdn c2 (by omega) hu2)
                    · have hup := gz_b1 (fun q => c129 (hx7.trans q))
                      have hn4 := (hM.2.1 code (by omega)).2 hup
                      refine gz_iload_n hC dX8_layHands_132 rfl ?_
                      refine gz_callS1 hC dX8_layHands_133 ml_X8_71 (by decide) (by decide) (Nat.le_of_ble_eq_true rfl) (ct_X8_product hJ _ _ d hd3 _ hx2) (fun v133 M133 hp133 => ?_)
                      obtain ⟨rfl, rfl⟩ := hp133
                      refine gz_istore hC dX8_layHands_136 (by decide) ?_
                      refine gz_iconst hC (0) dX8_layHands_138 (by decide) ?_
                      refine gz_istore hC dX8_layHands_139 (by decide) ?_
                      obtain ⟨J, rfl⟩ : ∃ z, z = J2 := ⟨_, rfl⟩
                      have lpf : ∀ (n2 f : Nat) (J2 : Nat → Nat → Int32) (x8 x9 : Int32) (hi2 : f + n2 = 4) (hx9 : x9 = nI f) (hx8 : x8 = nI (tb_ord (mh_d F d code) d f)) (hrow : ∀ k, k < d → J2 6 k = nI (mh_d F d code k)) (hcf : ∀ f2, f2 < f → J2 1 (16 * pl + 4 * mh_n F d code + f2) = nI (tb_cnt (mh_d F d code) d f2)) (hf2 : ∀ o j, o ≠ 1 ∨ j < 16 * pl + 4 * mh_n F d code ∨ 16 * pl + 4 * mh_n F d code + 4 ≤ j → J2 o j = J o j), gz_W p l e (gz_rm 1) s m args below meth c D ad cy lm_lay 12 (MQ below (gz_Q D ad cy lm_lay (fun v M1 => ∃ I1, v = none ∧ M1 = (I1, G) ∧ xm_h pl d F I1 ∧ ∀ o j, xm_k pl o j → I1 o j = I o j)) args s 0 0 (gz_A ad lm_lay)) (J2, G) 141 [(0, .ref (ad 0)), (1, .int x1), (2, .int x2), (3, .int x3), (4, .int x4), (5, .int x5), (6, .int x6), (7, .int x7), (8, .int x8), (9, .int x9)] [] := by
                        intro n2
                        induction n2 with
                        | zero =>
                          intro f J2 x8 x9 hi2 hx9 hx8 hrow hcf hf2
                          refine gz_iload hC dX8_layHands_141 rfl ?_
                          refine gz_iconst hC (4) dX8_layHands_143 (by decide) ?_
                          refine gz_icmp_ge hC 222 dX8_layHands_144 (by decide) (fun c144 => ?_) (fun c144 => ?_)
                          · refine gz_aload_n hC dX8_layHands_222 rfl ?_
                            refine gz_getR (j := 6) hC dX8_layHands_223 cf_X8 fl_X8_26 rfl rfl (by decide) ?_
                            refine gz_iconst hC (4) dX8_layHands_226 (by decide) ?_
                            refine gz_iload_n hC dX8_layHands_227 rfl ?_
                            refine gz_imul hC dX8_layHands_228 ?_
                            refine gz_iload hC dX8_layHands_229 rfl ?_
                            refine gz_iadd hC dX8_layHands_231 ?_
                            refine gz_iload hC dX8_layHands_232 rfl ?_
                            refine gz_iast hC dX8_layHands_234 rfl (by rw [hx1, hx4, gz_n4, pk_mul, nI_add]; exact vp_in_nI (by omega) (by decide)) ?_
                            refine gz_iinc hC (1) dX8_layHands_235 rfl (by decide) (by decide) ?_
                            rw [show (4 * x1 + x4).toNatClampNeg = 4 * pl + mh_n F d code by rw [hx1, hx4, gz_n4, pk_mul, nI_add, nI_clamp (by omega)]]
                            refine gz_lw [(0, .ref (ad 0)), (1, .int x1), (2, .int x2), (3, .int x3), (4, .int (x4 + 1)), (5, .int x5)] ⟨rfl, rfl, rfl, rfl, rfl, rfl, trivial⟩ ?_
                            exact rest238 (gz_up J2 3 (4 * pl + mh_n F d code) x8) _ (by rw [hx4, nI_1]; show _ = nI (mh_n F d code + cond (mh_u F d code 0) 1 0); rw [hup]; rfl) (fun o j h => by rw [gz_up2 (by unfold xm_k at h; omega), hf2 o j (by unfold xm_k at h; omega), hf o j h]) (fun c2 hc2 hu2 => by
                              by_cases e : c2 = code
                              · subst e; exact ⟨fun f2 hf4 => by rw [gz_up_at (by decide)]; exact hcf f2 (by omega), by rw [gz_up_self, hx8, show f = 4 by omega]⟩
                              · have hlt := mh_n_lt hu2 code (by omega)
                                obtain ⟨e1, e2⟩ := hdn c2 (by omega) hu2
                                exact ⟨fun f2 hf4 => by rw [gz_up_at (by decide), hf2 1 _ (by omega)]; exact e1 f2 hf4, by rw [gz_up_oth (by omega), hf2 3 _ (by omega)]; exact e2⟩)
                          · exact absurd (gz_ile (show (4 : Int32) = nI 4 from rfl) hx9 (by omega) (by omega)) c144
                        | succ n2 ihf =>
                          intro f J2 x8 x9 hi2 hx9 hx8 hrow hcf hf2
                          refine gz_iload hC dX8_layHands_141 rfl ?_
                          refine gz_iconst hC (4) dX8_layHands_143 (by decide) ?_
                          refine gz_icmp_ge hC 222 dX8_layHands_144 (by decide) (fun c144 => ?_) (fun c144 => ?_)
                          · exact absurd c144 (gz_inle (show (4 : Int32) = nI 4 from rfl) hx9 (by omega) (by omega))
                          · refine gz_iconst hC (0) dX8_layHands_147 (by decide) ?_
                            refine gz_istore hC dX8_layHands_148 (by decide) ?_
                            refine gz_iconst hC (0) dX8_layHands_150 (by decide) ?_
                            refine gz_istore hC dX8_layHands_151 (by decide) ?_
                            have rest187 : ∀ (x10 : Int32) (hx10 : x10 = nI (tb_cnt (mh_d F d code) d f)) (x11 : Int32), gz_W p l e (gz_rm 1) s m args below meth c D ad cy lm_lay 12 (MQ below (gz_Q D ad cy lm_lay (fun v M1 => ∃ I1, v = none ∧ M1 = (I1, G) ∧ xm_h pl d F I1 ∧ ∀ o j, xm_k pl o j → I1 o j = I o j)) args s 0 0 (gz_A ad lm_lay)) (J2, G) 187 [(0, .ref (ad 0)), (1, .int x1), (2, .int x2), (3, .int x3), (4, .int x4), (5, .int x5), (6, .int x6), (7, .int x7), (8, .int x8), (9, .int x9), (10, .int x10), (11, .int x11)] [] := by
                              intro x10 hx10 x11
                              have hcl := tb_cnt_le (mh_d F d code) f d
                              have hol := tb_ord_le (mh_d F d code) d f
                              have hfl := tb_fac3 hd3
                              have hcp := tb_fac_pos (tb_cnt (mh_d F d code) d f)
                              have hc6 := tb_fac3 (Nat.le_trans hcl hd3)
                              refine gz_aload_n hC dX8_layHands_187 rfl ?_
                              refine gz_getR (j := 4) hC dX8_layHands_188 cf_X8 fl_X8_19 rfl rfl (by decide) ?_
                              refine gz_bipush hC (16) dX8_layHands_191 (by decide) ?_
                              refine gz_iload_n hC dX8_layHands_193 rfl ?_
                              refine gz_imul hC dX8_layHands_194 ?_
                              refine gz_iconst hC (4) dX8_layHands_195 (by decide) ?_
                              refine gz_iload hC dX8_layHands_196 rfl ?_
                              refine gz_imul hC dX8_layHands_198 ?_
                              refine gz_iadd hC dX8_layHands_199 ?_
                              refine gz_iload hC dX8_layHands_200 rfl ?_
                              refine gz_iadd hC dX8_layHands_202 ?_
                              refine gz_iload hC dX8_layHands_203 rfl ?_
                              refine gz_iast hC dX8_layHands_205 rfl (by rw [hx1, hx4, hx9, gz_n16, gz_n4, pk_mul, pk_mul, nI_add, nI_add]; exact vp_in_nI (by omega) (by decide)) ?_
                              rw [show (16 * x1 + 4 * x4 + x9).toNatClampNeg = 16 * pl + 4 * mh_n F d code + f by rw [hx1, hx4, hx9, gz_n16, gz_n4, pk_mul, pk_mul, nI_add, nI_add, nI_clamp (by omega)]]
                              refine gz_iload hC dX8_layHands_206 rfl ?_
                              refine gz_iload hC dX8_layHands_208 rfl ?_
                              refine gz_callS1 hC dX8_layHands_210 ml_X8_71 (by decide) (by decide) (Nat.le_of_ble_eq_true rfl) (ct_X8_product hJ _ _ _ (Nat.le_trans hcl hd3) _ hx10) (fun v210 M210 hp210 => ?_)
                              obtain ⟨rfl, rfl⟩ := hp210
                              refine gz_idiv hC dX8_layHands_213 (nI_ne0 hcp (by omega)) ?_
                              refine gz_istore hC dX8_layHands_214 (by decide) ?_
                              refine gz_iinc hC (1) dX8_layHands_216 rfl (by decide) (by decide) ?_
                              refine gz_goto hC 141 dX8_layHands_219 (by decide) ?_
                              refine gz_lw [(0, .ref (ad 0)), (1, .int x1), (2, .int x2), (3, .int x3), (4, .int x4), (5, .int x5), (6, .int x6), (7, .int x7), (8, .int _), (9, .int (x9 + 1))] ⟨rfl, rfl, rfl, rfl, rfl, rfl, rfl, rfl, rfl, rfl, trivial⟩ ?_
                              exact ihf (f + 1) _ _ _ (by omega) (gz_i1 hx9) (by rw [hx8, pk_div (by omega) hcp (by omega)]; rfl) (fun k hk => by rw [gz_up_at (by decide)]; exact hrow k hk) (fun f2 h2 => by by_cases e : f2 = f; (subst e; rw [gz_up_self, hx10]); rw [gz_up_oth (by omega)]; exact hcf f2 (by omega)) (fun o j h => by rw [gz_up2 (by omega)]; exact hf2 o j h)
                            have lpm : ∀ (n3 i : Nat) (x10 x11 : Int32) (hi3 : i + n3 = d) (hx11 : x11 = nI i) (hx10 : x10 = nI (tb_cnt (mh_d F d code) i f)), gz_W p l e (gz_rm 1) s m args below meth c D ad cy lm_lay 12 (MQ below (gz_Q D ad cy lm_lay (fun v M1 => ∃ I1, v = none ∧ M1 = (I1, G) ∧ xm_h pl d F I1 ∧ ∀ o j, xm_k pl o j → I1 o j = I o j)) args s 0 0 (gz_A ad lm_lay)) (J2, G) 153 [(0, .ref (ad 0)), (1, .int x1), (2, .int x2), (3, .int x3), (4, .int x4), (5, .int x5), (6, .int x6), (7, .int x7), (8, .int x8), (9, .int x9), (10, .int x10), (11, .int x11)] [] := by
                              intro n3
                              induction n3 with
                              | zero =>
                                intro i x10 x11 hi3 hx11 hx10
                                refine gz_iload hC dX8_layHands_153 rfl ?_
                                refine gz_iload_n hC dX8_layHands_155 rfl ?_
                                refine gz_icmp_ge hC 187 dX8_layHands_156 (by decide) (fun c156 => ?_) (fun c156 => ?_)
                                · rw [show i = d by omega] at hx10
                                  have hcl := tb_cnt_le (mh_d F d code) f d
                                  exact rest187 x10 hx10 x11
                                · exact absurd (gz_ile hx2 hx11 (by omega) (by omega)) c156
                              | succ n3 ihm =>
                                intro i x10 x11 hi3 hx11 hx10
                                refine gz_iload hC dX8_layHands_153 rfl ?_
                                refine gz_iload_n hC dX8_layHands_155 rfl ?_
                                refine gz_icmp_ge hC 187 dX8_layHands_156 (by decide) (fun c156 => ?_) (fun c156 => ?_)
                                · exact absurd c156 (gz_inle hx2 hx11 (by omega) (by omega))
                                · refine gz_iload hC dX8_layHands_159 rfl ?_
                                  refine gz_aload_n hC dX8_layHands_161 rfl ?_
                                  refine gz_getR (j := 16) hC dX8_layHands_162 cf_X8 fl_X8_35 rfl rfl (by decide) ?_
                                  refine gz_iload hC dX8_layHands_165 rfl ?_
                                  refine gz_iald hC dX8_layHands_167 rfl (by rw [hx11]; exact vp_in_nI (by omega) (by decide)) ?_
                                  refine gz_iload hC dX8_layHands_168 rfl ?_
                                  rw [show x11.toNatClampNeg = i by rw [hx11, nI_clamp (by omega)], hrow i (by omega)]
                                  have hdF := mh_dF i
                                  refine gz_icmp_ne hC 177 dX8_layHands_170 (by decide) (fun c170 => ?_) (fun c170 => ?_)
                                  · have hc : tb_cnt (mh_d F d code) (i + 1) f = tb_cnt (mh_d F d code) i f := by show _ + (if f = _ then 1 else 0) = _; rw [if_neg (fun q => c170 (by rw [hx9, q]))]; rfl
                                    refine gz_iconst hC (0) dX8_layHands_177 (by decide) ?_
                                    refine gz_iadd hC dX8_layHands_178 ?_
                                    refine gz_istore hC dX8_layHands_179 (by decide) ?_
                                    refine gz_iinc hC (1) dX8_layHands_181 rfl (by decide) (by decide) ?_
                                    refine gz_goto hC 153 dX8_layHands_184 (by decide) ?_
                                    refine gz_lw [(0, .ref (ad 0)), (1, .int x1), (2, .int x2), (3, .int x3), (4, .int x4), (5, .int x5), (6, .int x6), (7, .int x7), (8, .int x8), (9, .int x9), (10, .int _), (11, .int (x11 + 1))] ⟨rfl, rfl, rfl, rfl, rfl, rfl, rfl, rfl, rfl, rfl, rfl, rfl, trivial⟩ ?_
                                    exact ihm (i + 1) _ _ (by omega) (gz_i1 hx11) (by rw [hc, hx10]; first | exact nI_1 _ | exact Int32.add_zero _)
                                  · have hc : tb_cnt (mh_d F d code) (i + 1) f = tb_cnt (mh_d F d code) i f + 1 := by show _ + (if f = _ then 1 else 0) = _; rw [if_pos ((nI_eq (by omega) (by omega)).mp (c170.trans hx9)).symm]
                                    refine gz_iconst hC (1) dX8_layHands_173 (by decide) ?_
                                    refine gz_goto hC 178 dX8_layHands_174 (by decide) ?_
                                    refine gz_iadd hC dX8_layHands_178 ?_
                                    refine gz_istore hC dX8_layHands_179 (by decide) ?_
                                    refine gz_iinc hC (1) dX8_layHands_181 rfl (by decide) (by decide) ?_
                                    refine gz_goto hC 153 dX8_layHands_184 (by decide) ?_
                                    refine gz_lw [(0, .ref (ad 0)), (1, .int x1), (2, .int x2), (3, .int x3), (4, .int x4), (5, .int x5), (6, .int x6), (7, .int x7), (8, .int x8), (9, .int x9), (10, .int _), (11, .int (x11 + 1))] ⟨rfl, rfl, rfl, rfl, rfl, rfl, rfl, rfl, rfl, rfl, rfl, rfl, trivial⟩ ?_
                                    exact ihm (i + 1) _ _ (by omega) (gz_i1 hx11) (by rw [hc, hx10]; first | exact nI_1 _ | exact Int32.add_zero _)
                            exact gz_lw [(0, .ref (ad 0)), (1, .int x1), (2, .int x2), (3, .int x3), (4, .int x4), (5, .int x5), (6, .int x6), (7, .int x7), (8, .int x8), (9, .int x9), (10, .int 0), (11, .int 0)] ⟨rfl, rfl, rfl, rfl, rfl, rfl, rfl, rfl, rfl, rfl, rfl, rfl, trivial⟩ (lpm d 0 0 0 (by omega) rfl rfl)
                      exact gz_lw [(0, .ref (ad 0)), (1, .int x1), (2, .int x2), (3, .int x3), (4, .int x4), (5, .int x5), (6, .int x6), (7, .int x7), (8, .int _), (9, .int 0)] ⟨rfl, rfl, rfl, rfl, rfl, rfl, rfl, rfl, rfl, rfl, trivial⟩ (lpf 4 0 J _ 0 (by omega) rfl rfl (fun k hk => hrow k (Nat.zero_le k) hk) (fun f2 h => absurd h (Nat.not_lt_zero f2)) (fun _ _ _ => rfl))
                  · exact absurd (by rw [z1 rfl]; decide) c56
                | succ i ihd =>
                  intro hj J2 x6 x7 x8 z1 z2 hx6 hx7 hrow hf hdn
                  have hx8 := z2 i rfl
                  refine gz_iload hC dX8_layHands_54 rfl ?_
                  refine gz_if_lt hC 127 dX8_layHands_56 (by decide) (fun c56 => ?_) (fun c56 => ?_)
                  · exact absurd c56 (by rw [hx8]; exact nI_pos (by omega))
                  · have hcb : code / F ^ (d - (i + 1)) < 2 ^ 31 := Nat.lt_of_le_of_lt (Nat.div_le_self _ _) (by omega)
                    have hF2 := (show J2 0 2 = nI F from (hf 0 2 (by unfold xm_k; omega)).trans hF)
                    refine gz_aload_n hC dX8_layHands_59 rfl ?_
                    refine gz_getR (j := 16) hC dX8_layHands_60 cf_X8 fl_X8_35 rfl rfl (by decide) ?_
                    refine gz_iload hC dX8_layHands_63 rfl ?_
                    refine gz_iload hC dX8_layHands_65 rfl ?_
                    refine gz_aload_n hC dX8_layHands_67 rfl ?_
                    refine gz_getI (j := 2) hC dX8_layHands_68 cf_X8 fl_X8_16 rfl rfl (by decide) ?_
                    refine gz_irem hC dX8_layHands_71 (by rw [hF2]; exact nI_ne0 (by omega) (by omega)) ?_
                    refine gz_iast hC dX8_layHands_72 rfl (by rw [hx8]; exact vp_in_nI (by omega) (by decide)) ?_
                    rw [hF2, hx6, pk_rem hcb (by omega) (by omega), show x8.toNatClampNeg = i by rw [hx8, nI_clamp (by omega)], show nI (code / F ^ (d - (i + 1)) % F) = nI (mh_d F d code i) from rfl]
                    refine gz_iload hC dX8_layHands_73 rfl ?_
                    refine gz_aload_n hC dX8_layHands_75 rfl ?_
                    refine gz_getI (j := 2) hC dX8_layHands_76 cf_X8 fl_X8_16 rfl rfl (by decide) ?_
                    rw [gz_up_at (by decide), hF2, ← hx6]
                    refine gz_idiv hC dX8_layHands_79 (nI_ne0 (by omega) (by omega)) ?_
                    refine gz_istore hC dX8_layHands_80 (by decide) ?_
                    refine gz_iload hC dX8_layHands_82 rfl ?_
                    refine gz_if_eq hC 118 dX8_layHands_84 (by decide) (fun c84 => ?_) (fun c84 => ?_)
                    · have hv : mh_u F d code i = false := by rw [mh_u_s (show i < d by omega), gz_b0 (hx7.symm.trans c84)]; rfl
                      refine gz_iconst hC (0) dX8_layHands_118 (by decide) ?_
                      refine gz_istore hC dX8_layHands_119 (by decide) ?_
                      refine gz_iinc hC (-1) dX8_layHands_121 rfl (by decide) (by decide) ?_
                      refine gz_goto hC 54 dX8_layHands_124 (by decide) ?_
                      first
                        | (have hv1 : mh_u F d code i = true := hv
                           refine gz_lw [(0, .ref (ad 0)), (1, .int x1), (2, .int x2), (3, .int x3), (4, .int x4), (5, .int x5), (6, .int _), (7, .int 1), (8, .int (x8 + (-1)))] ⟨rfl, rfl, rfl, rfl, rfl, rfl, rfl, rfl, rfl, trivial⟩ ?_
                           exact ihd (by omega) (gz_up J2 6 i (nI (mh_d F d code i))) _ _ _ (fun e => by subst e; rw [hx8]; rfl) (fun q hq => by subst hq; rw [hx8]; exact pk_m1 q) (by rw [hx6, show d - i = d - (i + 1) + 1 by omega, Nat.pow_succ, ← Nat.div_div_eq_div_mul]; exact pk_div hcb (by omega) (by omega)) (by rw [hv1]; rfl) (fun k hk1 hk2 => by by_cases e : k = i; (subst e; exact gz_up_self); rw [gz_up_oth e]; exact hrow k (by omega) hk2) (fun o j h => by rw [gz_up2 (by unfold xm_k at h; omega)]; exact hf o j h) (fun c2 h1 h2 => by obtain ⟨e1, e2⟩ := hdn c2 h1 h2; exact ⟨fun f2 h4 => by rw [gz_up_at (by decide)]; exact e1 f2 h4, by rw [gz_up_at (by decide)]; exact e2⟩)
                           done)
                        | (have hv1 : mh_u F d code i = false := hv
                           refine gz_lw [(0, .ref (ad 0)), (1, .int x1), (2, .int x2), (3, .int x3), (4, .int x4), (5, .int x5), (6, .int _), (7, .int 0), (8, .int (x8 + (-1)))] ⟨rfl, rfl, rfl, rfl, rfl, rfl, rfl, rfl, rfl, trivial⟩ ?_
                           exact ihd (by omega) (gz_up J2 6 i (nI (mh_d F d code i))) _ _ _ (fun e => by subst e; rw [hx8]; rfl) (fun q hq => by subst hq; rw [hx8]; exact pk_m1 q) (by rw [hx6, show d - i = d - (i + 1) + 1 by omega, Nat.pow_succ, ← Nat.div_div_eq_div_mul]; exact pk_div hcb (by omega) (by omega)) (by rw [hv1]; rfl) (fun k hk1 hk2 => by by_cases e : k = i; (subst e; exact gz_up_self); rw [gz_up_oth e]; exact hrow k (by omega) hk2) (fun o j h => by rw [gz_up2 (by unfold xm_k at h; omega)]; exact hf o j h) (fun c2 h1 h2 => by obtain ⟨e1, e2⟩ := hdn c2 h1 h2; exact ⟨fun f2 h4 => by rw [gz_up_at (by decide)]; exact e1 f2 h4, by rw [gz_up_at (by decide)]; exact e2⟩)
                           done)
                    · have hb7 := gz_b1 (fun q => c84 (hx7.trans q))
                      refine gz_iload hC dX8_layHands_87 rfl ?_
                      refine gz_iload_n hC dX8_layHands_89 rfl ?_
                      refine gz_iconst hC (1) dX8_layHands_90 (by decide) ?_
                      refine gz_isub hC dX8_layHands_91 ?_
                      refine gz_icmp_eq hC 114 dX8_layHands_92 (by decide) (fun c92 => ?_) (fun c92 => ?_)
                      · have hv : mh_u F d code i = true := by rw [mh_u_s (show i < d by omega), hb7, decide_eq_true (show i + 1 = d from by have q := hx8.symm.trans c92; rw [hx2, show (1 : Int32) = nI 1 from rfl, pk_sub (by omega)] at q; have q2 := (nI_eq (by omega) (by omega)).mp q; omega)]; rfl
                        refine gz_iconst hC (1) dX8_layHands_114 (by decide) ?_
                        refine gz_goto hC 119 dX8_layHands_115 (by decide) ?_
                        refine gz_istore hC dX8_layHands_119 (by decide) ?_
                        refine gz_iinc hC (-1) dX8_layHands_121 rfl (by decide) (by decide) ?_
                        refine gz_goto hC 54 dX8_layHands_124 (by decide) ?_
                        first
                          | (have hv1 : mh_u F d code i = true := hv
                             refine gz_lw [(0, .ref (ad 0)), (1, .int x1), (2, .int x2), (3, .int x3), (4, .int x4), (5, .int x5), (6, .int _), (7, .int 1), (8, .int (x8 + (-1)))] ⟨rfl, rfl, rfl, rfl, rfl, rfl, rfl, rfl, rfl, trivial⟩ ?_
                             exact ihd (by omega) (gz_up J2 6 i (nI (mh_d F d code i))) _ _ _ (fun e => by subst e; rw [hx8]; rfl) (fun q hq => by subst hq; rw [hx8]; exact pk_m1 q) (by rw [hx6, show d - i = d - (i + 1) + 1 by omega, Nat.pow_succ, ← Nat.div_div_eq_div_mul]; exact pk_div hcb (by omega) (by omega)) (by rw [hv1]; rfl) (fun k hk1 hk2 => by by_cases e : k = i; (subst e; exact gz_up_self); rw [gz_up_oth e]; exact hrow k (by omega) hk2) (fun o j h => by rw [gz_up2 (by unfold xm_k at h; omega)]; exact hf o j h) (fun c2 h1 h2 => by obtain ⟨e1, e2⟩ := hdn c2 h1 h2; exact ⟨fun f2 h4 => by rw [gz_up_at (by decide)]; exact e1 f2 h4, by rw [gz_up_at (by decide)]; exact e2⟩)
                             done)
                          | (have hv1 : mh_u F d code i = false := hv
                             refine gz_lw [(0, .ref (ad 0)), (1, .int x1), (2, .int x2), (3, .int x3), (4, .int x4), (5, .int x5), (6, .int _), (7, .int 0), (8, .int (x8 + (-1)))] ⟨rfl, rfl, rfl, rfl, rfl, rfl, rfl, rfl, rfl, trivial⟩ ?_
                             exact ihd (by omega) (gz_up J2 6 i (nI (mh_d F d code i))) _ _ _ (fun e => by subst e; rw [hx8]; rfl) (fun q hq => by subst hq; rw [hx8]; exact pk_m1 q) (by rw [hx6, show d - i = d - (i + 1) + 1 by omega, Nat.pow_succ, ← Nat.div_div_eq_div_mul]; exact pk_div hcb (by omega) (by omega)) (by rw [hv1]; rfl) (fun k hk1 hk2 => by by_cases e : k = i; (subst e; exact gz_up_self); rw [gz_up_oth e]; exact hrow k (by omega) hk2) (fun o j h => by rw [gz_up2 (by unfold xm_k at h; omega)]; exact hf o j h) (fun c2 h1 h2 => by obtain ⟨e1, e2⟩ := hdn c2 h1 h2; exact ⟨fun f2 h4 => by rw [gz_up_at (by decide)]; exact e1 f2 h4, by rw [gz_up_at (by decide)]; exact e2⟩)
                             done)
                      · have hid : ¬ i + 1 = d := fun q => c92 (by rw [hx8, hx2, show (1 : Int32) = nI 1 from rfl, pk_sub (by omega)]; congr 1; omega)
                        refine gz_aload_n hC dX8_layHands_95 rfl ?_
                        refine gz_getR (j := 16) hC dX8_layHands_96 cf_X8 fl_X8_35 rfl rfl (by decide) ?_
                        refine gz_iload hC dX8_layHands_99 rfl ?_
                        refine gz_iald hC dX8_layHands_101 rfl (by rw [hx8]; exact vp_in_nI (by omega) (by decide)) ?_
                        refine gz_aload_n hC dX8_layHands_102 rfl ?_
                        refine gz_getR (j := 16) hC dX8_layHands_103 cf_X8 fl_X8_35 rfl rfl (by decide) ?_
                        refine gz_iload hC dX8_layHands_106 rfl ?_
                        refine gz_iconst hC (1) dX8_layHands_108 (by decide) ?_
                        refine gz_iadd hC dX8_layHands_109 ?_
                        refine gz_iald hC dX8_layHands_110 rfl (by rw [hx8, nI_1]; exact vp_in_nI (by omega) (by decide)) ?_
                        rw [show x8.toNatClampNeg = i by rw [hx8, nI_clamp (by omega)], show (x8 + 1).toNatClampNeg = i + 1 by rw [hx8, nI_1, nI_clamp (by omega)], gz_up_self, gz_up_oth (by omega), hrow (i + 1) (by omega) (by omega)]
                        have e1 := mh_dF i
                        have e2 := mh_dF (i + 1)
                        refine gz_icmp_gt hC 118 dX8_layHands_111 (by decide) (fun c111 => ?_) (fun c111 => ?_)
                        · have hv : mh_u F d code i = false := by rw [mh_u_s (show i < d by omega), decide_eq_false hid, decide_eq_false (fun q => absurd c111 (nI_nlt q (by omega))), Bool.or_false, Bool.and_false]
                          refine gz_iconst hC (0) dX8_layHands_118 (by decide) ?_
                          refine gz_istore hC dX8_layHands_119 (by decide) ?_
                          refine gz_iinc hC (-1) dX8_layHands_121 rfl (by decide) (by decide) ?_
                          refine gz_goto hC 54 dX8_layHands_124 (by decide) ?_
                          first
                            | (have hv1 : mh_u F d code i = true := hv
                               refine gz_lw [(0, .ref (ad 0)), (1, .int x1), (2, .int x2), (3, .int x3), (4, .int x4), (5, .int x5), (6, .int _), (7, .int 1), (8, .int (x8 + (-1)))] ⟨rfl, rfl, rfl, rfl, rfl, rfl, rfl, rfl, rfl, trivial⟩ ?_
                               exact ihd (by omega) (gz_up J2 6 i (nI (mh_d F d code i))) _ _ _ (fun e => by subst e; rw [hx8]; rfl) (fun q hq => by subst hq; rw [hx8]; exact pk_m1 q) (by rw [hx6, show d - i = d - (i + 1) + 1 by omega, Nat.pow_succ, ← Nat.div_div_eq_div_mul]; exact pk_div hcb (by omega) (by omega)) (by rw [hv1]; rfl) (fun k hk1 hk2 => by by_cases e : k = i; (subst e; exact gz_up_self); rw [gz_up_oth e]; exact hrow k (by omega) hk2) (fun o j h => by rw [gz_up2 (by unfold xm_k at h; omega)]; exact hf o j h) (fun c2 h1 h2 => by obtain ⟨e1, e2⟩ := hdn c2 h1 h2; exact ⟨fun f2 h4 => by rw [gz_up_at (by decide)]; exact e1 f2 h4, by rw [gz_up_at (by decide)]; exact e2⟩)
                               done)
                            | (have hv1 : mh_u F d code i = false := hv
                               refine gz_lw [(0, .ref (ad 0)), (1, .int x1), (2, .int x2), (3, .int x3), (4, .int x4), (5, .int x5), (6, .int _), (7, .int 0), (8, .int (x8 + (-1)))] ⟨rfl, rfl, rfl, rfl, rfl, rfl, rfl, rfl, rfl, trivial⟩ ?_
                               exact ihd (by omega) (gz_up J2 6 i (nI (mh_d F d code i))) _ _ _ (fun e => by subst e; rw [hx8]; rfl) (fun q hq => by subst hq; rw [hx8]; exact pk_m1 q) (by rw [hx6, show d - i = d - (i + 1) + 1 by omega, Nat.pow_succ, ← Nat.div_div_eq_div_mul]; exact pk_div hcb (by omega) (by omega)) (by rw [hv1]; rfl) (fun k hk1 hk2 => by by_cases e : k = i; (subst e; exact gz_up_self); rw [gz_up_oth e]; exact hrow k (by omega) hk2) (fun o j h => by rw [gz_up2 (by unfold xm_k at h; omega)]; exact hf o j h) (fun c2 h1 h2 => by obtain ⟨e1, e2⟩ := hdn c2 h1 h2; exact ⟨fun f2 h4 => by rw [gz_up_at (by decide)]; exact e1 f2 h4, by rw [gz_up_at (by decide)]; exact e2⟩)
                               done)
                        · have hv : mh_u F d code i = true := by rw [mh_u_s (show i < d by omega), hb7, decide_eq_true ((nI_leI (by omega) (by omega)).mp (by first | exact c111 | exact Int32.not_lt.mp c111)), Bool.or_true]; rfl
                          refine gz_iconst hC (1) dX8_layHands_114 (by decide) ?_
                          refine gz_goto hC 119 dX8_layHands_115 (by decide) ?_
                          refine gz_istore hC dX8_layHands_119 (by decide) ?_
                          refine gz_iinc hC (-1) dX8_layHands_121 rfl (by decide) (by decide) ?_
                          refine gz_goto hC 54 dX8_layHands_124 (by decide) ?_
                          first
                            | (have hv1 : mh_u F d code i = true := hv
                               refine gz_lw [(0, .ref (ad 0)), (1, .int x1), (2, .int x2), (3, .int x3), (4, .int x4), (5, .int x5), (6, .int _), (7, .int 1), (8, .int (x8 + (-1)))] ⟨rfl, rfl, rfl, rfl, rfl, rfl, rfl, rfl, rfl, trivial⟩ ?_
                               exact ihd (by omega) (gz_up J2 6 i (nI (mh_d F d code i))) _ _ _ (fun e => by subst e; rw [hx8]; rfl) (fun q hq => by subst hq; rw [hx8]; exact pk_m1 q) (by rw [hx6, show d - i = d - (i + 1) + 1 by omega, Nat.pow_succ, ← Nat.div_div_eq_div_mul]; exact pk_div hcb (by omega) (by omega)) (by rw [hv1]; rfl) (fun k hk1 hk2 => by by_cases e : k = i; (subst e; exact gz_up_self); rw [gz_up_oth e]; exact hrow k (by omega) hk2) (fun o j h => by rw [gz_up2 (by unfold xm_k at h; omega)]; exact hf o j h) (fun c2 h1 h2 => by obtain ⟨e1, e2⟩ := hdn c2 h1 h2; exact ⟨fun f2 h4 => by rw [gz_up_at (by decide)]; exact e1 f2 h4, by rw [gz_up_at (by decide)]; exact e2⟩)
                               done)
                            | (have hv1 : mh_u F d code i = false := hv
                               refine gz_lw [(0, .ref (ad 0)), (1, .int x1), (2, .int x2), (3, .int x3), (4, .int x4), (5, .int x5), (6, .int _), (7, .int 0), (8, .int (x8 + (-1)))] ⟨rfl, rfl, rfl, rfl, rfl, rfl, rfl, rfl, rfl, trivial⟩ ?_
                               exact ihd (by omega) (gz_up J2 6 i (nI (mh_d F d code i))) _ _ _ (fun e => by subst e; rw [hx8]; rfl) (fun q hq => by subst hq; rw [hx8]; exact pk_m1 q) (by rw [hx6, show d - i = d - (i + 1) + 1 by omega, Nat.pow_succ, ← Nat.div_div_eq_div_mul]; exact pk_div hcb (by omega) (by omega)) (by rw [hv1]; rfl) (fun k hk1 hk2 => by by_cases e : k = i; (subst e; exact gz_up_self); rw [gz_up_oth e]; exact hrow k (by omega) hk2) (fun o j h => by rw [gz_up2 (by unfold xm_k at h; omega)]; exact hf o j h) (fun c2 h1 h2 => by obtain ⟨e1, e2⟩ := hdn c2 h1 h2; exact ⟨fun f2 h4 => by rw [gz_up_at (by decide)]; exact e1 f2 h4, by rw [gz_up_at (by decide)]; exact e2⟩)
                               done)
              refine gz_lw [(0, .ref (ad 0)), (1, .int x1), (2, .int x2), (3, .int x3), (4, .int x4), (5, .int x5), (6, .int x5), (7, .int 1), (8, .int (x2 - 1))] ⟨rfl, rfl, rfl, rfl, rfl, rfl, rfl, rfl, rfl, trivial⟩ ?_
              exact lpd d (Nat.le_refl d) J x5 1 _ (fun e => by omega) (fun i hi => by rw [hx2, hi]; exact nI_pred i) (by rw [Nat.sub_self, Nat.pow_zero, Nat.div_one]; exact hx5) (by rw [mh_u_d]; rfl) (fun k h1 h2 => absurd h1 (by omega)) hf hdn
        exact gz_lw [(0, .ref (ad 0)), (1, .int x1), (2, .int x2), (3, .int x3), (4, .int 0), (5, .int 0)] ⟨rfl, rfl, rfl, rfl, rfl, rfl, trivial⟩ (lpc (F ^ d) 0 I 0 0 (by omega) rfl rfl (fun _ _ _ => rfl) (fun c2 h => absurd h (Nat.not_lt_zero c2)))
      · exact absurd (gz_ile hx2 hx4 (by omega) (by omega)) c14
    | succ n ih =>
      intro i x3 x4 hi hx4 hx3
      refine gz_iload hC dX8_layHands_11 rfl ?_
      refine gz_iload_n hC dX8_layHands_13 rfl ?_
      refine gz_icmp_ge hC 30 dX8_layHands_14 (by decide) (fun c14 => ?_) (fun c14 => ?_)
      · exact absurd c14 (gz_inle hx2 hx4 (by omega) (by omega))
      · refine gz_iload_n hC dX8_layHands_17 rfl ?_
        refine gz_aload_n hC dX8_layHands_18 rfl ?_
        refine gz_getI (j := 2) hC dX8_layHands_19 cf_X8 fl_X8_16 rfl rfl (by decide) ?_
        refine gz_imul hC dX8_layHands_22 ?_
        refine gz_istore_n hC dX8_layHands_23 (by decide) ?_
        refine gz_iinc hC (1) dX8_layHands_24 rfl (by decide) (by decide) ?_
        refine gz_goto hC 11 dX8_layHands_27 (by decide) ?_
        refine gz_lw [(0, .ref (ad 0)), (1, .int x1), (2, .int x2), (3, .int (x3 * I 0 2)), (4, .int (x4 + 1))] ⟨rfl, rfl, rfl, rfl, rfl, trivial⟩ ?_
        exact ih (i + 1) _ _ (by omega) (gz_i1 hx4) (by rw [hx3, hF, pk_mul, Nat.pow_succ])
  exact gz_lw [(0, .ref (ad 0)), (1, .int x1), (2, .int x2), (3, .int 1), (4, .int 0)] ⟨rfl, rfl, rfl, rfl, rfl, trivial⟩ (lpp d 0 1 0 (by omega) rfl rfl)
  -- places not laid: [13, 14, 17, 18, 19, 22, 23, 24, 27, 30, 31, 33, 34, 36, 38, 39, 42, 44, 46, 47, 49, 50, 51, 52, 54, 56, 59, 60, 63, 65, 67, 68, 71, 72, 73, 75, 76, 79, 80, 82, 84, 87, 89, 90, 91, 92, 95, 96, 99, 101, 102, 103, 106, 108, 109, 110, 111, 114, 115, 118, 119, 121, 124, 127, 129, 132, 133, 136, 138, 139, 141, 143, 144, 147, 148, 150, 151, 153, 155, 156, 159, 161, 162, 165, 167, 168, 170, 173, 174, 177, 178, 179, 181, 184, 187, 188, 191, 193, 194, 195, 196, 198, 199, 200, 202, 203, 205, 206, 208, 210, 213, 214, 216, 219, 222, 223, 226, 227, 228, 229, 231, 232, 234, 235, 238, 241, 244, 245, 248, 249, 251, 252]
end CT
