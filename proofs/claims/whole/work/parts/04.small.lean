/-! the small static methods of the class -/
/-- x lies from lo to hi -/
def gz_in (x lo hi : Int32) : Bool := !decide (x < lo) && !decide (hi < x)
/-- may a move follow a last bid -/
def gz_mf (last move : Int32) : Bool := cond (decide (move = -1)) (!decide (last = -1)) (decide (last < move))
theorem gz_le2n {x y : Int32} (h : ¬ x ≤ y) : y < x := Int32.not_le.mp h
theorem gz_ltf {x y : Int32} (h : x ≤ y) : ¬ y < x := Int32.not_lt.mpr h
section CT
variable {l : Launch} {D : va_G} {ad : Nat → Nat} {cy : Nat → ClassId}
set_option maxHeartbeats 4000000 in
set_option maxRecDepth 100000 in
theorem ct_X7_within (hJ : gz_inj ad lx_lay) (I : Nat → Nat → Int32) (G : Nat → Nat → UInt64) (x lo hi : Int32) : gz_Ct l D ad cy lx_lay yX7_within cX7_within 3 (some .boolean) 0 [.int x, .int lo, .int hi] (I, G) (fun v M1 => v = some (.int (gz_b (gz_in x lo hi))) ∧ M1 = (I, G)) := by
  refine gz_met (by decide +kernel) hJ (Nat.le_of_ble_eq_true rfl) ?_
  intro p e s m args below meth c hC
  refine gz_iload_n hC dX7_within_0 rfl ?_
  refine gz_iload_n hC dX7_within_1 rfl ?_
  refine gz_icmp_lt hC 14 dX7_within_2 (by decide) (fun c2 => ?_) (fun c2 => ?_)
  · refine gz_iconst hC (0) dX7_within_14 (by decide) ?_
    exact gz_zret rfl hC dX7_within_15 ⟨gz_v (by simp [gz_in, gz_b, *]), rfl⟩
  · refine gz_iload_n hC dX7_within_5 rfl ?_
    refine gz_iload_n hC dX7_within_6 rfl ?_
    refine gz_icmp_gt hC 14 dX7_within_7 (by decide) (fun c7 => ?_) (fun c7 => ?_)
    · refine gz_iconst hC (0) dX7_within_14 (by decide) ?_
      exact gz_zret rfl hC dX7_within_15 ⟨gz_v (by simp [gz_in, gz_b, *]), rfl⟩
    · refine gz_iconst hC (1) dX7_within_10 (by decide) ?_
      refine gz_goto hC 15 dX7_within_11 (by decide) ?_
      exact gz_zret rfl hC dX7_within_15 ⟨gz_v (by simp [gz_in, gz_b, *]), rfl⟩
set_option maxHeartbeats 4000000 in
set_option maxRecDepth 100000 in
theorem ct_X7_isPlayer (hJ : gz_inj ad lx_lay) (I : Nat → Nat → Int32) (G : Nat → Nat → UInt64) (x : Int32) : gz_Ct l D ad cy lx_lay yX7_isPlayer cX7_isPlayer 1 (some .boolean) 1 [.int x] (I, G) (fun v M1 => v = some (.int (gz_b (gz_in x 0 1))) ∧ M1 = (I, G)) := by
  refine gz_met (by decide +kernel) hJ (Nat.le_of_ble_eq_true rfl) ?_
  intro p e s m args below meth c hC
  refine gz_iload_n hC dX7_isPlayer_0 rfl ?_
  refine gz_iconst hC (0) dX7_isPlayer_1 (by decide) ?_
  refine gz_iconst hC (1) dX7_isPlayer_2 (by decide) ?_
  refine gz_callS3 hC dX7_isPlayer_3 ml_X7_50 (by decide) (by decide) (Nat.le_of_ble_eq_true rfl) (ct_X7_within hJ _ _ _ _ _) (fun v3 M3 hp3 => ?_)
  obtain ⟨rfl, rfl⟩ := hp3
  exact gz_zret (gz_bn _) hC dX7_isPlayer_6 ⟨rfl, rfl⟩
set_option maxHeartbeats 4000000 in
set_option maxRecDepth 100000 in
theorem ct_X7_isPlan (hJ : gz_inj ad lx_lay) (I : Nat → Nat → Int32) (G : Nat → Nat → UInt64) (x : Int32) : gz_Ct l D ad cy lx_lay yX7_isPlan cX7_isPlan 1 (some .boolean) 1 [.int x] (I, G) (fun v M1 => v = some (.int (gz_b (gz_in x 0 3))) ∧ M1 = (I, G)) := by
  refine gz_met (by decide +kernel) hJ (Nat.le_of_ble_eq_true rfl) ?_
  intro p e s m args below meth c hC
  refine gz_iload_n hC dX7_isPlan_0 rfl ?_
  refine gz_iconst hC (0) dX7_isPlan_1 (by decide) ?_
  refine gz_iconst hC (3) dX7_isPlan_2 (by decide) ?_
  refine gz_callS3 hC dX7_isPlan_3 ml_X7_50 (by decide) (by decide) (Nat.le_of_ble_eq_true rfl) (ct_X7_within hJ _ _ _ _ _) (fun v3 M3 hp3 => ?_)
  obtain ⟨rfl, rfl⟩ := hp3
  exact gz_zret (gz_bn _) hC dX7_isPlan_6 ⟨rfl, rfl⟩
set_option maxHeartbeats 4000000 in
set_option maxRecDepth 100000 in
theorem ct_X7_mayFollow (hJ : gz_inj ad lx_lay) (I : Nat → Nat → Int32) (G : Nat → Nat → UInt64) (last move : Int32) : gz_Ct l D ad cy lx_lay yX7_mayFollow cX7_mayFollow 2 (some .boolean) 0 [.int last, .int move] (I, G) (fun v M1 => v = some (.int (gz_b (gz_mf last move))) ∧ M1 = (I, G)) := by
  refine gz_met (by decide +kernel) hJ (Nat.le_of_ble_eq_true rfl) ?_
  intro p e s m args below meth c hC
  refine gz_iload_n hC dX7_mayFollow_0 rfl ?_
  refine gz_iconst hC (-1) dX7_mayFollow_1 (by decide) ?_
  refine gz_icmp_ne hC 18 dX7_mayFollow_2 (by decide) (fun c2 => ?_) (fun c2 => ?_)
  · refine gz_iload_n hC dX7_mayFollow_18 rfl ?_
    refine gz_iload_n hC dX7_mayFollow_19 rfl ?_
    refine gz_icmp_le hC 27 dX7_mayFollow_20 (by decide) (fun c20 => ?_) (fun c20 => ?_)
    · refine gz_iconst hC (0) dX7_mayFollow_27 (by decide) ?_
      exact gz_zret rfl hC dX7_mayFollow_28 ⟨gz_v (by first | (simp [gz_mf, gz_b, *]; done) | (simp [gz_mf, gz_b, c2, gz_ltf c20]; done) | (simp [gz_mf, gz_b, c2, gz_le2n c20]; done)), rfl⟩
    · refine gz_iconst hC (1) dX7_mayFollow_23 (by decide) ?_
      refine gz_goto hC 28 dX7_mayFollow_24 (by decide) ?_
      exact gz_zret rfl hC dX7_mayFollow_28 ⟨gz_v (by first | (simp [gz_mf, gz_b, *]; done) | (simp [gz_mf, gz_b, c2, gz_ltf c20]; done) | (simp [gz_mf, gz_b, c2, gz_le2n c20]; done)), rfl⟩
  · refine gz_iload_n hC dX7_mayFollow_5 rfl ?_
    refine gz_iconst hC (-1) dX7_mayFollow_6 (by decide) ?_
    refine gz_icmp_eq hC 14 dX7_mayFollow_7 (by decide) (fun c7 => ?_) (fun c7 => ?_)
    · refine gz_iconst hC (0) dX7_mayFollow_14 (by decide) ?_
      refine gz_goto hC 28 dX7_mayFollow_15 (by decide) ?_
      exact gz_zret rfl hC dX7_mayFollow_28 ⟨gz_v (by first | (simp [gz_mf, gz_b, *]; done) | (simp [gz_mf, gz_b, c2, gz_ltf c20]; done) | (simp [gz_mf, gz_b, c2, gz_le2n c20]; done)), rfl⟩
    · refine gz_iconst hC (1) dX7_mayFollow_10 (by decide) ?_
      refine gz_goto hC 28 dX7_mayFollow_11 (by decide) ?_
      exact gz_zret rfl hC dX7_mayFollow_28 ⟨gz_v (by first | (simp [gz_mf, gz_b, *]; done) | (simp [gz_mf, gz_b, c2, gz_ltf c20]; done) | (simp [gz_mf, gz_b, c2, gz_le2n c20]; done)), rfl⟩
set_option maxHeartbeats 4000000 in
set_option maxRecDepth 100000 in
theorem ct_X7_at (hJ : gz_inj ad lx_lay) (I : Nat → Nat → Int32) (G : Nat → Nat → UInt64) (k n j : Nat) (hk : lx_lay[k]? = some (.inr (n, 0))) (hn : n < 2147483648) (i : Int32) (hi : i = nI j) (hj : j < n) : gz_Ct l D ad cy lx_lay yX7_at cX7_at 2 (some .int) 0 [.ref (ad k), .int i] (I, G) (fun v M1 => v = some (.int (I k j)) ∧ M1 = (I, G)) := by
  refine gz_met (by decide +kernel) hJ (Nat.le_of_ble_eq_true rfl) ?_
  intro p e s m args below meth c hC
  refine gz_iload_n hC dX7_at_0 rfl ?_
  refine gz_if_lt hC 16 dX7_at_1 (by decide) (fun c1 => ?_) (fun c1 => ?_)
  · exact absurd c1 (by rw [hi]; exact nI_pos (by omega))
  · refine gz_iload_n hC dX7_at_4 rfl ?_
    refine gz_aload_n hC dX7_at_5 rfl ?_
    refine gz_alenI hC dX7_at_6 hk rfl ?_
    refine gz_icmp_ge hC 16 dX7_at_7 (by decide) (fun c7 => ?_) (fun c7 => ?_)
    · exact absurd c7 (by rw [hi]; exact nI_ge hj (by omega))
    · refine gz_aload_n hC dX7_at_10 rfl ?_
      refine gz_iload_n hC dX7_at_11 rfl ?_
      refine gz_iald hC dX7_at_12 hk (by rw [hi]; exact vp_in_nI hj (by omega)) ?_
      refine gz_goto hC 17 dX7_at_13 (by decide) ?_
      exact gz_iret hC dX7_at_17 ⟨by rw [hi, nI_clamp (by omega)], rfl⟩
  -- places not laid: [16]
set_option maxHeartbeats 4000000 in
set_option maxRecDepth 100000 in
theorem ct_X7_put (hJ : gz_inj ad lx_lay) (I : Nat → Nat → Int32) (G : Nat → Nat → UInt64) (k n j : Nat) (hk : lx_lay[k]? = some (.inr (n, 0))) (hn : n < 2147483648) (i x : Int32) (hi : i = nI j) (hj : j < n) : gz_Ct l D ad cy lx_lay yX7_put cX7_put 3 none 0 [.ref (ad k), .int i, .int x] (I, G) (fun v M1 => v = none ∧ M1 = (gz_up I k j x, G)) := by
  refine gz_met (by decide +kernel) hJ (Nat.le_of_ble_eq_true rfl) ?_
  intro p e s m args below meth c hC
  refine gz_iload_n hC dX7_put_0 rfl ?_
  refine gz_if_lt hC 14 dX7_put_1 (by decide) (fun c1 => ?_) (fun c1 => ?_)
  · exact absurd c1 (by rw [hi]; exact nI_pos (by omega))
  · refine gz_iload_n hC dX7_put_4 rfl ?_
    refine gz_aload_n hC dX7_put_5 rfl ?_
    refine gz_alenI hC dX7_put_6 hk rfl ?_
    refine gz_icmp_ge hC 14 dX7_put_7 (by decide) (fun c7 => ?_) (fun c7 => ?_)
    · exact absurd c7 (by rw [hi]; exact nI_ge hj (by omega))
    · refine gz_aload_n hC dX7_put_10 rfl ?_
      refine gz_iload_n hC dX7_put_11 rfl ?_
      refine gz_iload_n hC dX7_put_12 rfl ?_
      refine gz_iast hC dX7_put_13 hk (by rw [hi]; exact vp_in_nI hj (by omega)) ?_
      exact gz_vret hC dX7_put_14 ⟨rfl, by rw [hi, nI_clamp (by omega)]⟩
set_option maxHeartbeats 4000000 in
set_option maxRecDepth 100000 in
theorem ct_X7_realAt (hJ : gz_inj ad lx_lay) (I : Nat → Nat → Int32) (G : Nat → Nat → UInt64) (k n j : Nat) (hk : lx_lay[k]? = some (.inr (n, 1))) (hn : n < 2147483648) (i : Int32) (hi : i = nI j) (hj : j < n) : gz_Ct l D ad cy lx_lay yX7_realAt cX7_realAt 2 (some .double) 0 [.ref (ad k), .int i] (I, G) (fun v M1 => v = some (.double (G k j)) ∧ M1 = (I, G)) := by
  refine gz_met (by decide +kernel) hJ (Nat.le_of_ble_eq_true rfl) ?_
  intro p e s m args below meth c hC
  refine gz_iload_n hC dX7_realAt_0 rfl ?_
  refine gz_if_lt hC 16 dX7_realAt_1 (by decide) (fun c1 => ?_) (fun c1 => ?_)
  · exact absurd c1 (by rw [hi]; exact nI_pos (by omega))
  · refine gz_iload_n hC dX7_realAt_4 rfl ?_
    refine gz_aload_n hC dX7_realAt_5 rfl ?_
    refine gz_alenD hC dX7_realAt_6 hk ?_
    refine gz_icmp_ge hC 16 dX7_realAt_7 (by decide) (fun c7 => ?_) (fun c7 => ?_)
    · exact absurd c7 (by rw [hi]; exact nI_ge hj (by omega))
    · refine gz_aload_n hC dX7_realAt_10 rfl ?_
      refine gz_iload_n hC dX7_realAt_11 rfl ?_
      refine gz_dald hC dX7_realAt_12 hk (by rw [hi]; exact vp_in_nI hj (by omega)) ?_
      refine gz_goto hC 17 dX7_realAt_13 (by decide) ?_
      exact gz_dret hC dX7_realAt_17 ⟨by rw [hi, nI_clamp (by omega)], rfl⟩
  -- places not laid: [16]
set_option maxHeartbeats 4000000 in
set_option maxRecDepth 100000 in
theorem ct_X7_putReal (hJ : gz_inj ad lx_lay) (I : Nat → Nat → Int32) (G : Nat → Nat → UInt64) (k n j : Nat) (hk : lx_lay[k]? = some (.inr (n, 1))) (hn : n < 2147483648) (i : Int32) (x : UInt64) (hi : i = nI j) (hj : j < n) : gz_Ct l D ad cy lx_lay yX7_putReal cX7_putReal 4 none 0 [.ref (ad k), .int i, .double x] (I, G) (fun v M1 => v = none ∧ M1 = (I, gz_up G k j x)) := by
  refine gz_met (by decide +kernel) hJ (Nat.le_of_ble_eq_true rfl) ?_
  intro p e s m args below meth c hC
  refine gz_iload_n hC dX7_putReal_0 rfl ?_
  refine gz_if_lt hC 14 dX7_putReal_1 (by decide) (fun c1 => ?_) (fun c1 => ?_)
  · exact absurd c1 (by rw [hi]; exact nI_pos (by omega))
  · refine gz_iload_n hC dX7_putReal_4 rfl ?_
    refine gz_aload_n hC dX7_putReal_5 rfl ?_
    refine gz_alenD hC dX7_putReal_6 hk ?_
    refine gz_icmp_ge hC 14 dX7_putReal_7 (by decide) (fun c7 => ?_) (fun c7 => ?_)
    · exact absurd c7 (by rw [hi]; exact nI_ge hj (by omega))
    · refine gz_aload_n hC dX7_putReal_10 rfl ?_
      refine gz_iload_n hC dX7_putReal_11 rfl ?_
      refine gz_dload_n hC dX7_putReal_12 rfl ?_
      refine gz_dast hC dX7_putReal_13 hk (by rw [hi]; exact vp_in_nI hj (by omega)) ?_
      exact gz_vret hC dX7_putReal_14 ⟨rfl, by rw [hi, nI_clamp (by omega)]⟩
set_option maxHeartbeats 4000000 in
set_option maxRecDepth 100000 in
theorem ct_X7_cut (hJ : gz_inj ad lx_lay) (I : Nat → Nat → Int32) (G : Nat → Nat → UInt64) (a b : Int32) (x y : Nat) (ha : a = nI x) (hb : b = nI y) (hax : x < 2 ^ 31) (h0 : 0 < y) (hby : y < 2 ^ 31) : gz_Ct l D ad cy lx_lay yX7_cut cX7_cut 2 (some .int) 0 [.int a, .int b] (I, G) (fun v M1 => v = some (.int (nI (x / y))) ∧ M1 = (I, G)) := by
  refine gz_met (by decide +kernel) hJ (Nat.le_of_ble_eq_true rfl) ?_
  intro p e s m args below meth c hC
  refine gz_iload_n hC dX7_cut_0 rfl ?_
  refine gz_if_le hC 10 dX7_cut_1 (by decide) (fun c1 => ?_) (fun c1 => ?_)
  · exact absurd c1 (by rw [hb]; exact nI_nle h0 hby)
  · refine gz_iload_n hC dX7_cut_4 rfl ?_
    refine gz_iload_n hC dX7_cut_5 rfl ?_
    refine gz_idiv hC dX7_cut_6 (by rw [hb]; exact nI_ne0 h0 hby) ?_
    refine gz_goto hC 11 dX7_cut_7 (by decide) ?_
    exact gz_iret hC dX7_cut_11 ⟨gz_v (by rw [ha, hb]; exact pk_div hax h0 hby), rfl⟩
  -- places not laid: [10]
set_option maxHeartbeats 4000000 in
set_option maxRecDepth 100000 in
theorem ct_X7_leftOver (hJ : gz_inj ad lx_lay) (I : Nat → Nat → Int32) (G : Nat → Nat → UInt64) (a b : Int32) (x y : Nat) (ha : a = nI x) (hb : b = nI y) (hax : x < 2 ^ 31) (h0 : 0 < y) (hby : y < 2 ^ 31) : gz_Ct l D ad cy lx_lay yX7_leftOver cX7_leftOver 2 (some .int) 0 [.int a, .int b] (I, G) (fun v M1 => v = some (.int (nI (x % y))) ∧ M1 = (I, G)) := by
  refine gz_met (by decide +kernel) hJ (Nat.le_of_ble_eq_true rfl) ?_
  intro p e s m args below meth c hC
  refine gz_iload_n hC dX7_leftOver_0 rfl ?_
  refine gz_if_le hC 10 dX7_leftOver_1 (by decide) (fun c1 => ?_) (fun c1 => ?_)
  · exact absurd c1 (by rw [hb]; exact nI_nle h0 hby)
  · refine gz_iload_n hC dX7_leftOver_4 rfl ?_
    refine gz_iload_n hC dX7_leftOver_5 rfl ?_
    refine gz_irem hC dX7_leftOver_6 (by rw [hb]; exact nI_ne0 h0 hby) ?_
    refine gz_goto hC 11 dX7_leftOver_7 (by decide) ?_
    exact gz_iret hC dX7_leftOver_11 ⟨gz_v (by rw [ha, hb]; exact pk_rem hax h0 hby), rfl⟩
  -- places not laid: [10]
end CT
