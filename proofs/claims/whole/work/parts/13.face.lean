/-! the face: cups, round, held, move, about, count, digest -/
theorem cf_all : ∀ d0, d0 < 4 → ∀ d1, d1 < 4 → ∀ F, F < 5 → 1 ≤ d0 → 1 ≤ d1 → 2 ≤ F → (d0 + d1) * F ≤ 8 → cf_ok d0 d1 F := by
  intro d0 h0 d1 h1 F hF a b c e
  rcases (show d0 = 1 ∨ d0 = 2 ∨ d0 = 3 by omega) with rfl | rfl | rfl <;> rcases (show d1 = 1 ∨ d1 = 2 ∨ d1 = 3 by omega) with rfl | rfl | rfl <;> rcases (show F = 2 ∨ F = 3 ∨ F = 4 by omega) with rfl | rfl | rfl <;> first | exact absurd e (by decide) | (unfold cf_ok tb_ok; decide)
def sp_cok (a b f : Int32) : Bool := gz_in a 1 3 && (gz_in b 1 3 && (gz_in f 2 4 && !decide (8 < (a + b) * f)))
theorem sp_cok_t {a b f : Int32} (h : sp_cok a b f = true) : cf_ok a.toNatClampNeg b.toNatClampNeg f.toNatClampNeg ∧ a = nI a.toNatClampNeg ∧ b = nI b.toNatClampNeg ∧ f = nI f.toNatClampNeg := by
  unfold sp_cok at h
  simp only [Bool.and_eq_true, Bool.not_eq_true', decide_eq_false_iff_not] at h
  obtain ⟨h1, h2, h3, h4⟩ := h
  obtain ⟨x, x1, x2, rfl⟩ := gz_in_m (a := 1) (b := 3) (by decide) (by decide) h1
  obtain ⟨y, y1, y2, rfl⟩ := gz_in_m (a := 1) (b := 3) (by decide) (by decide) h2
  obtain ⟨z, z1, z2, rfl⟩ := gz_in_m (a := 2) (b := 4) (by decide) (by decide) h3
  rw [nI_add, pk_mul] at h4
  rw [nI_clamp (by omega), nI_clamp (by omega), nI_clamp (by omega)]
  refine ⟨cf_all x (by omega) y (by omega) z (by omega) x1 y1 z1 ?_, rfl, rfl, rfl⟩
  rcases Nat.lt_or_ge 8 ((x + y) * z) with q | q
  · have m1 : (x + y) * z ≤ 6 * 4 := Nat.mul_le_mul (by omega) z2
    exact absurd (nI_lt q (by omega)) h4
  · exact q
theorem xi_tab_fr {d0 d1 F : Nat} {w : Bool} {I J : Nat → Nat → Int32} (h : xi_tab d0 d1 F w I) (hf : ∀ o, o ≤ 10 → J o = I o) : xi_tab d0 d1 F w J := by
  obtain ⟨h1, h2, h3, h4, h5, h6⟩ := h
  refine ⟨by rw [hf 1 (by decide)]; exact h1, by rw [hf 1 (by decide)]; exact h2, by rw [hf 1 (by decide)]; exact h3, xi_cup_fr h4 (hf 3 (by decide)) (hf 4 (by decide)) (hf 5 (by decide)), xi_cup_fr h5 (hf 7 (by decide)) (hf 8 (by decide)) (hf 9 (by decide)), ?_⟩
  rw [hf 2 (by decide)]
  exact h6
section CT
variable {l : Launch} {D : va_G} {ad : Nat → Nat} {cy : Nat → ClassId}
set_option maxHeartbeats 4000000 in
set_option maxRecDepth 100000 in
theorem ct_X2_forget (hJ : gz_inj ad lx_lay) (I : Nat → Nat → Int32) (G : Nat → Nat → UInt64) : gz_Ct l D ad cy lx_lay yX2_forget cX2_forget 1 none 0 [.ref (ad 23)] (I, G) (fun v M1 => v = none ∧ M1 = (gz_up I 23 3 0, G)) := by
  refine gz_met (by decide +kernel) hJ (Nat.le_of_ble_eq_true rfl) ?_
  intro p e s m args below meth c hC
  refine gz_aload_n hC dX2_forget_0 rfl ?_
  refine gz_iconst hC (0) dX2_forget_1 (by decide) ?_
  refine gz_put (j := 3) hC dX2_forget_2 cf_X2 fl_X2_29 rfl rfl (by decide) rfl rfl rfl ?_
  exact gz_vret hC dX2_forget_5 ⟨rfl, rfl⟩
set_option maxHeartbeats 4000000 in
set_option maxRecDepth 100000 in
theorem ct_X7_cups (hJ : gz_inj ad lx_lay) (I : Nat → Nat → Int32) (G : Nat → Nat → UInt64) (a b f x : Int32) (w2 : Bool) (hx : x = gz_b w2) : gz_Ct l D ad cy lx_lay yX7_cups cX7_cups 5 (some .int) 6 [.ref (ad 0), .int a, .int b, .int f, .int x] (I, G) (fun v M1 => (sp_cok a b f = false ∧ v = some (.int (-2)) ∧ M1 = (I, G)) ∨ (sp_cok a b f = true ∧ ∃ I1, v = some (.int (nI ((a.toNatClampNeg + b.toNatClampNeg) * f.toNatClampNeg))) ∧ M1 = (I1, G) ∧ xi_tab a.toNatClampNeg b.toNatClampNeg f.toNatClampNeg w2 I1 ∧ (∀ i, i < 3888 → I1 12 i = 1) ∧ I1 23 3 = 0 ∧ (∀ j, j ≠ 3 → I1 23 j = I 23 j) ∧ ∀ i, 3888 ≤ i → I1 12 i = I 12 i)) := by
  refine gz_met (by decide +kernel) hJ (Nat.le_of_ble_eq_true rfl) ?_
  intro p e s m args below meth c hC
  refine gz_iload_n hC dX7_cups_0 rfl ?_
  refine gz_iconst hC (1) dX7_cups_1 (by decide) ?_
  refine gz_iconst hC (3) dX7_cups_2 (by decide) ?_
  refine gz_callS3 hC dX7_cups_3 ml_X7_50 (by decide) (by decide) (Nat.le_of_ble_eq_true rfl) (ct_X7_within hJ _ _ _ _ _) (fun v3 M3 hp3 => ?_)
  obtain ⟨rfl, rfl⟩ := hp3
  refine gz_if_eq hC 18 dX7_cups_6 (by decide) (fun c6 => ?_) (fun c6 => ?_)
  · have q1 := gz_b0 c6
    refine gz_bipush hC (-2) dX7_cups_18 (by decide) ?_
    exact gz_iret hC dX7_cups_20 (Or.inl ⟨by unfold sp_cok; first | (rw [q1, q2, q3, decide_eq_true (gz_le2n c37)]; rfl) | (rw [q1, q2, q3]; rfl) | (rw [q1, q2]; rfl) | (rw [q1]; rfl), rfl, rfl⟩)
  · have q1 := gz_b1 c6
    refine gz_iload_n hC dX7_cups_9 rfl ?_
    refine gz_iconst hC (1) dX7_cups_10 (by decide) ?_
    refine gz_iconst hC (3) dX7_cups_11 (by decide) ?_
    refine gz_callS3 hC dX7_cups_12 ml_X7_50 (by decide) (by decide) (Nat.le_of_ble_eq_true rfl) (ct_X7_within hJ _ _ _ _ _) (fun v12 M12 hp12 => ?_)
    obtain ⟨rfl, rfl⟩ := hp12
    refine gz_if_ne hC 21 dX7_cups_15 (by decide) (fun c15 => ?_) (fun c15 => ?_)
    · have q2 := gz_b1 c15
      refine gz_iload_n hC dX7_cups_21 rfl ?_
      refine gz_iconst hC (2) dX7_cups_22 (by decide) ?_
      refine gz_iconst hC (4) dX7_cups_23 (by decide) ?_
      refine gz_callS3 hC dX7_cups_24 ml_X7_50 (by decide) (by decide) (Nat.le_of_ble_eq_true rfl) (ct_X7_within hJ _ _ _ _ _) (fun v24 M24 hp24 => ?_)
      obtain ⟨rfl, rfl⟩ := hp24
      refine gz_if_eq hC 40 dX7_cups_27 (by decide) (fun c27 => ?_) (fun c27 => ?_)
      · have q3 := gz_b0 c27
        refine gz_bipush hC (-2) dX7_cups_40 (by decide) ?_
        exact gz_iret hC dX7_cups_42 (Or.inl ⟨by unfold sp_cok; first | (rw [q1, q2, q3, decide_eq_true (gz_le2n c37)]; rfl) | (rw [q1, q2, q3]; rfl) | (rw [q1, q2]; rfl) | (rw [q1]; rfl), rfl, rfl⟩)
      · have q3 := gz_b1 c27
        refine gz_iload_n hC dX7_cups_30 rfl ?_
        refine gz_iload_n hC dX7_cups_31 rfl ?_
        refine gz_iadd hC dX7_cups_32 ?_
        refine gz_iload_n hC dX7_cups_33 rfl ?_
        refine gz_imul hC dX7_cups_34 ?_
        refine gz_bipush hC (8) dX7_cups_35 (by decide) ?_
        refine gz_icmp_le hC 43 dX7_cups_37 (by decide) (fun c37 => ?_) (fun c37 => ?_)
        · have q4 : sp_cok a b f = true := by unfold sp_cok; rw [q1, q2, q3, decide_eq_false (gz_ltf c37)]; rfl
          obtain ⟨hO, ha, hb, hf⟩ := sp_cok_t q4
          refine gz_aload_n hC dX7_cups_43 rfl ?_
          refine gz_getR (j := 0) hC dX7_cups_44 cf_X7 fl_X7_12 rfl rfl (by decide) ?_
          refine gz_iload_n hC dX7_cups_47 rfl ?_
          refine gz_iload_n hC dX7_cups_48 rfl ?_
          refine gz_iload_n hC dX7_cups_49 rfl ?_
          refine gz_iload hC dX7_cups_50 rfl ?_
          refine gz_callV4 hC dX7_cups_52 ml_X7_46 rfl rfl (by decide) (by decide) (Nat.le_of_ble_eq_true rfl) (ct_X6_lay hJ _ _ a.toNatClampNeg b.toNatClampNeg f.toNatClampNeg w2 _ _ _ _ ha hb hf hx hO) (fun v52 M52 hp52 => ?_)
          obtain ⟨J1, rfl, rfl, k1, k2⟩ := hp52
          refine gz_aload_n hC dX7_cups_55 rfl ?_
          refine gz_getR (j := 1) hC dX7_cups_56 cf_X7 fl_X7_19 rfl rfl (by decide) ?_
          refine gz_callV0 hC dX7_cups_59 ml_X7_54 rfl rfl (by decide) (by decide) (Nat.le_of_ble_eq_true rfl) (ct_X4_reset hJ _ _) (fun v59 M59 hp59 => ?_)
          obtain ⟨rfl, rfl⟩ := hp59
          refine gz_aload_n hC dX7_cups_62 rfl ?_
          refine gz_getR (j := 4) hC dX7_cups_63 cf_X7 fl_X7_42 rfl rfl (by decide) ?_
          refine gz_callV0 hC dX7_cups_66 ml_X7_57 rfl rfl (by decide) (by decide) (Nat.le_of_ble_eq_true rfl) (ct_X2_forget hJ _ _) (fun v66 M66 hp66 => ?_)
          obtain ⟨rfl, rfl⟩ := hp66
          refine gz_aload_n hC dX7_cups_69 rfl ?_
          refine gz_getR (j := 0) hC dX7_cups_70 cf_X7 fl_X7_12 rfl rfl (by decide) ?_
          refine gz_getIN (j := 4) hC dX7_cups_73 cf_X6 fl_X7_60 rfl rfl (by decide) ?_
          exact gz_iret hC dX7_cups_76 (Or.inr ⟨q4, _, by rw [gz_up_at (by decide), gz_fi_at (by decide), k1.2.1], rfl, xi_tab_fr k1 (fun o ho => by rw [gz_up_ne (by omega), gz_fi_ne (by omega)]), fun i hi => by rw [gz_up_at (by decide), gz_fi_in hi], gz_up_self, fun j hj => by rw [gz_up_oth hj, gz_fi_at (by decide), k2 23 (Or.inr (by decide))], fun i hi => by rw [gz_up_at (by decide), show gz_fi J1 12 3888 1 12 i = J1 12 i by unfold gz_fi; rw [if_pos rfl]; exact if_neg (Nat.not_lt.mpr hi), k2 12 (Or.inr (by decide))]⟩)
        · refine gz_bipush hC (-2) dX7_cups_40 (by decide) ?_
          exact gz_iret hC dX7_cups_42 (Or.inl ⟨by unfold sp_cok; first | (rw [q1, q2, q3, decide_eq_true (gz_le2n c37)]; rfl) | (rw [q1, q2, q3]; rfl) | (rw [q1, q2]; rfl) | (rw [q1]; rfl), rfl, rfl⟩)
    · have q2 := gz_b0 c15
      refine gz_bipush hC (-2) dX7_cups_18 (by decide) ?_
      exact gz_iret hC dX7_cups_20 (Or.inl ⟨by unfold sp_cok; first | (rw [q1, q2, q3, decide_eq_true (gz_le2n c37)]; rfl) | (rw [q1, q2, q3]; rfl) | (rw [q1, q2]; rfl) | (rw [q1]; rfl), rfl, rfl⟩)
set_option maxHeartbeats 4000000 in
set_option maxRecDepth 100000 in
theorem ct_X7_round (hJ : gz_inj ad lx_lay) (I : Nat → Nat → Int32) (G : Nat → Nat → UInt64) (d0 d1 F : Nat) (w : Bool) (hO : cf_ok d0 d1 F) (hX : xi_tab d0 d1 F w I) (th : Bool) (g : Nat → Int32) (hg : xi_g th g I) (seed : Int32) : gz_Ct l D ad cy lx_lay yX7_round cX7_round 2 (some .int) 6 [.ref (ad 0), .int seed] (I, G) (fun v M1 => (seed < 0 ∧ v = some (.int (-2)) ∧ M1 = (I, G)) ∨ (¬ seed < 0 ∧ ∃ I1, v = some (.int (nI (dr_h d0 F seed))) ∧ M1 = (I1, G) ∧ xi_g true (sp_gr d0 d1 F seed g) I1 ∧ ∀ o, o ≠ 23 → o ≠ 24 → I1 o = I o)) := by
  refine gz_met (by decide +kernel) hJ (Nat.le_of_ble_eq_true rfl) ?_
  intro p e s m args below meth c hC
  refine gz_iload_n hC dX7_round_0 rfl ?_
  refine gz_if_ge hC 7 dX7_round_1 (by decide) (fun c1 => ?_) (fun c1 => ?_)
  · refine gz_aload_n hC dX7_round_7 rfl ?_
    refine gz_getR (j := 4) hC dX7_round_8 cf_X7 fl_X7_42 rfl rfl (by decide) ?_
    refine gz_iload_n hC dX7_round_11 rfl ?_
    refine gz_callV1 hC dX7_round_12 ml_X7_155 rfl rfl (by decide) (by decide) (Nat.le_of_ble_eq_true rfl) (ct_X2_begin hJ _ _ d0 d1 F w hO hX _) (fun v12 M12 hp12 => ?_)
    obtain ⟨J, rfl, rfl, k3, k4, k5, k6, k7, k8, k9, k10, k11, kf⟩ := hp12
    refine gz_aload_n hC dX7_round_15 rfl ?_
    refine gz_getR (j := 4) hC dX7_round_16 cf_X7 fl_X7_42 rfl rfl (by decide) ?_
    refine gz_iconst hC (0) dX7_round_19 (by decide) ?_
    refine gz_callV1 hC dX7_round_20 ml_X7_159 rfl rfl (by decide) (by decide) (Nat.le_of_ble_eq_true rfl) (ct_X2_handOf hJ _ _ _) (fun v20 M20 hp20 => ?_)
    obtain ⟨rfl, rfl⟩ := hp20
    exact gz_iret hC dX7_round_23 (Or.inr ⟨Int32.not_lt.mpr c1, J, by rw [if_pos rfl, k4], rfl, ⟨k3, fun _ j hj => (match j, hj with | 0, _ => k4 | 1, _ => k5 | 2, _ => k6 | 3, _ => k7 | 4, _ => k8 | 5, _ => k9), by rw [k10]; exact hg.2.2.1, by rw [k11]; exact hg.2.2.2⟩, kf⟩)
  · refine gz_bipush hC (-2) dX7_round_4 (by decide) ?_
    exact gz_iret hC dX7_round_6 (Or.inl ⟨Int32.not_le.mp c1, rfl, rfl⟩)
set_option maxHeartbeats 4000000 in
set_option maxRecDepth 100000 in
theorem ct_X7_held (hJ : gz_inj ad lx_lay) (I : Nat → Nat → Int32) (G : Nat → Nat → UInt64) (th : Bool) (g : Nat → Int32) (hg : xi_g th g I) (x : Int32) : gz_Ct l D ad cy lx_lay yX7_held cX7_held 2 (some .int) 2 [.ref (ad 0), .int x] (I, G) (fun v M1 => v = some (.int (sp_held th g x)) ∧ M1 = (I, G)) := by
  refine gz_met (by decide +kernel) hJ (Nat.le_of_ble_eq_true rfl) ?_
  intro p e s m args below meth c hC
  refine gz_iload_n hC dX7_held_0 rfl ?_
  refine gz_callS1 hC dX7_held_1 ml_X7_64 (by decide) (by decide) (Nat.le_of_ble_eq_true rfl) (ct_X7_isPlayer hJ _ _ _) (fun v1 M1 hp1 => ?_)
  obtain ⟨rfl, rfl⟩ := hp1
  refine gz_if_ne hC 10 dX7_held_4 (by decide) (fun c4 => ?_) (fun c4 => ?_)
  · have q1 := gz_b1 c4
    refine gz_aload_n hC dX7_held_10 rfl ?_
    refine gz_getR (j := 4) hC dX7_held_11 cf_X7 fl_X7_42 rfl rfl (by decide) ?_
    refine gz_getIN (j := 3) hC dX7_held_14 cf_X2 fl_X7_162 rfl rfl (by decide) ?_
    refine gz_if_eq hC 31 dX7_held_17 (by decide) (fun c17 => ?_) (fun c17 => ?_)
    · rw [hg.1] at c17
      have q2 := gz_b0 c17
      refine gz_bipush hC (-3) dX7_held_31 (by decide) ?_
      exact gz_iret hC dX7_held_33 ⟨gz_v (by unfold sp_held; rw [q1, q2]; first | rfl | (have e1 := hg.2.1 q2 0 (by decide); have e2 := hg.2.1 q2 1 (by decide); rw [show I 23 4 = g 0 from e1, show I 23 5 = g 1 from e2]; rfl)), rfl⟩
    · rw [hg.1] at c17
      have q2 := gz_b1 c17
      refine gz_aload_n hC dX7_held_20 rfl ?_
      refine gz_getR (j := 4) hC dX7_held_21 cf_X7 fl_X7_42 rfl rfl (by decide) ?_
      refine gz_iload_n hC dX7_held_24 rfl ?_
      refine gz_callV1 hC dX7_held_25 ml_X7_159 rfl rfl (by decide) (by decide) (Nat.le_of_ble_eq_true rfl) (ct_X2_handOf hJ _ _ _) (fun v25 M25 hp25 => ?_)
      obtain ⟨rfl, rfl⟩ := hp25
      refine gz_goto hC 33 dX7_held_28 (by decide) ?_
      exact gz_iret hC dX7_held_33 ⟨gz_v (by unfold sp_held; rw [q1, q2]; first | rfl | (have e1 := hg.2.1 q2 0 (by decide); have e2 := hg.2.1 q2 1 (by decide); rw [show I 23 4 = g 0 from e1, show I 23 5 = g 1 from e2]; rfl)), rfl⟩
  · have q1 := gz_b0 c4
    refine gz_bipush hC (-2) dX7_held_7 (by decide) ?_
    exact gz_iret hC dX7_held_9 ⟨gz_v (by unfold sp_held; rw [q1]; rfl), rfl⟩
set_option maxHeartbeats 4000000 in
set_option maxRecDepth 100000 in
theorem ct_X7_about (hJ : gz_inj ad lx_lay) (I : Nat → Nat → Int32) (G : Nat → Nat → UInt64) (th : Bool) (g : Nat → Int32) (hg : xi_g th g I) (x : Int32) : gz_Ct l D ad cy lx_lay yX7_about cX7_about 2 (some .int) 2 [.ref (ad 0), .int x] (I, G) (fun v M1 => v = some (.int (sp_about th g x)) ∧ M1 = (I, G)) := by
  refine gz_met (by decide +kernel) hJ (Nat.le_of_ble_eq_true rfl) ?_
  intro p e s m args below meth c hC
  refine gz_iload_n hC dX7_about_0 rfl ?_
  refine gz_iconst hC (0) dX7_about_1 (by decide) ?_
  refine gz_iconst hC (3) dX7_about_2 (by decide) ?_
  refine gz_callS3 hC dX7_about_3 ml_X7_50 (by decide) (by decide) (Nat.le_of_ble_eq_true rfl) (ct_X7_within hJ _ _ _ _ _) (fun v3 M3 hp3 => ?_)
  obtain ⟨rfl, rfl⟩ := hp3
  refine gz_if_ne hC 12 dX7_about_6 (by decide) (fun c6 => ?_) (fun c6 => ?_)
  · have q1 := gz_b1 c6
    obtain ⟨j, hj, hx⟩ := gz_in_t (n := 4) (by decide) (by decide) q1
    refine gz_aload_n hC dX7_about_12 rfl ?_
    refine gz_getR (j := 4) hC dX7_about_13 cf_X7 fl_X7_42 rfl rfl (by decide) ?_
    refine gz_getIN (j := 3) hC dX7_about_16 cf_X2 fl_X7_162 rfl rfl (by decide) ?_
    refine gz_if_eq hC 33 dX7_about_19 (by decide) (fun c19 => ?_) (fun c19 => ?_)
    · rw [hg.1] at c19
      have q2 := gz_b0 c19
      refine gz_bipush hC (-3) dX7_about_33 (by decide) ?_
      exact gz_iret hC dX7_about_35 ⟨gz_v (by unfold sp_about; rw [q1, q2]; first | rfl | (rw [hx, nI_clamp (by omega), show 6 + j = 4 + (2 + j) by omega, hg.2.1 q2 (2 + j) (by omega)]; rfl)), rfl⟩
    · rw [hg.1] at c19
      have q2 := gz_b1 c19
      refine gz_aload_n hC dX7_about_22 rfl ?_
      refine gz_getR (j := 4) hC dX7_about_23 cf_X7 fl_X7_42 rfl rfl (by decide) ?_
      refine gz_iload_n hC dX7_about_26 rfl ?_
      refine gz_callV1 hC dX7_about_27 ml_X7_182 rfl rfl (by decide) (by decide) (Nat.le_of_ble_eq_true rfl) (ct_X2_fact hJ _ _ j hj _ hx) (fun v27 M27 hp27 => ?_)
      obtain ⟨rfl, rfl⟩ := hp27
      refine gz_goto hC 35 dX7_about_30 (by decide) ?_
      exact gz_iret hC dX7_about_35 ⟨gz_v (by unfold sp_about; rw [q1, q2]; first | rfl | (rw [hx, nI_clamp (by omega), show 6 + j = 4 + (2 + j) by omega, hg.2.1 q2 (2 + j) (by omega)]; rfl)), rfl⟩
  · have q1 := gz_b0 c6
    refine gz_bipush hC (-2) dX7_about_9 (by decide) ?_
    exact gz_iret hC dX7_about_11 ⟨gz_v (by unfold sp_about; rw [q1]; rfl), rfl⟩
set_option maxHeartbeats 4000000 in
set_option maxRecDepth 100000 in
theorem ct_X7_count (hJ : gz_inj ad lx_lay) (I : Nat → Nat → Int32) (G : Nat → Nat → UInt64) (d0 d1 F : Nat) (w : Bool) (hO : cf_ok d0 d1 F) (hX : xi_tab d0 d1 F w I) (th : Bool) (g : Nat → Int32) (hg : xi_g th g I) (x : Int32) : gz_Ct l D ad cy lx_lay yX7_count cX7_count 2 (some .int) 2 [.ref (ad 0), .int x] (I, G) (fun v M1 => v = some (.int (sp_count d0 d1 F w g x)) ∧ M1 = (I, G)) := by
  refine gz_met (by decide +kernel) hJ (Nat.le_of_ble_eq_true rfl) ?_
  intro p e s m args below meth c hC
  refine gz_iload_n hC dX7_count_0 rfl ?_
  by_cases n0 : x = 0
  · subst n0
    refine gz_tabIn hC 44 dX7_count_1 (by decide) (by decide) rfl (by decide) ?_
    refine gz_aload_n hC dX7_count_44 rfl ?_
    refine gz_getR (j := 0) hC dX7_count_45 cf_X7 fl_X7_12 rfl rfl (by decide) ?_
    refine gz_iconst hC (0) dX7_count_48 (by decide) ?_
    refine gz_callV1 hC dX7_count_49 ml_X7_68 rfl rfl (by decide) (by decide) (Nat.le_of_ble_eq_true rfl) (ct_X6_cup hJ _ _ _ 3 (Or.inl ⟨rfl, rfl⟩)) (fun v49 M49 hp49 => ?_)
    obtain ⟨rfl, rfl⟩ := hp49
    refine gz_getIN (j := 3) hC dX7_count_52 cf_X1 fl_X7_121 rfl rfl (by decide) ?_
    exact gz_iret hC dX7_count_55 ⟨gz_v hX.2.2.2.1.1, rfl⟩
  by_cases n1 : x = 1
  · subst n1
    refine gz_tabIn hC 56 dX7_count_1 (by decide) (by decide) rfl (by decide) ?_
    refine gz_aload_n hC dX7_count_56 rfl ?_
    refine gz_getR (j := 0) hC dX7_count_57 cf_X7 fl_X7_12 rfl rfl (by decide) ?_
    refine gz_iconst hC (1) dX7_count_60 (by decide) ?_
    refine gz_callV1 hC dX7_count_61 ml_X7_68 rfl rfl (by decide) (by decide) (Nat.le_of_ble_eq_true rfl) (ct_X6_cup hJ _ _ _ 7 (Or.inr ⟨by decide, rfl⟩)) (fun v61 M61 hp61 => ?_)
    obtain ⟨rfl, rfl⟩ := hp61
    refine gz_getIN (j := 3) hC dX7_count_64 cf_X1 fl_X7_121 rfl rfl (by decide) ?_
    exact gz_iret hC dX7_count_67 ⟨gz_v hX.2.2.2.2.1.1, rfl⟩
  by_cases n2 : x = 2
  · subst n2
    refine gz_tabIn hC 68 dX7_count_1 (by decide) (by decide) rfl (by decide) ?_
    refine gz_aload_n hC dX7_count_68 rfl ?_
    refine gz_getR (j := 0) hC dX7_count_69 cf_X7 fl_X7_12 rfl rfl (by decide) ?_
    refine gz_getIN (j := 3) hC dX7_count_72 cf_X6 fl_X7_81 rfl rfl (by decide) ?_
    exact gz_iret hC dX7_count_75 ⟨gz_v hX.1, rfl⟩
  by_cases n3 : x = 3
  · subst n3
    refine gz_tabIn hC 76 dX7_count_1 (by decide) (by decide) rfl (by decide) ?_
    refine gz_aload_n hC dX7_count_76 rfl ?_
    refine gz_getR (j := 0) hC dX7_count_77 cf_X7 fl_X7_12 rfl rfl (by decide) ?_
    refine gz_getIN (j := 5) hC dX7_count_80 cf_X6 fl_X7_185 rfl rfl (by decide) ?_
    refine gz_if_eq hC 90 dX7_count_83 (by decide) (fun c83 => ?_) (fun c83 => ?_)
    · rw [hX.2.2.1] at c83
      have q2 := gz_b0 c83
      refine gz_iconst hC (0) dX7_count_90 (by decide) ?_
      exact gz_iret hC dX7_count_91 ⟨gz_v (by rw [show sp_count d0 d1 F w g 3 = gz_b w from rfl, q2]; rfl), rfl⟩
    · rw [hX.2.2.1] at c83
      have q2 := gz_b1 c83
      refine gz_iconst hC (1) dX7_count_86 (by decide) ?_
      refine gz_goto hC 91 dX7_count_87 (by decide) ?_
      exact gz_iret hC dX7_count_91 ⟨gz_v (by rw [show sp_count d0 d1 F w g 3 = gz_b w from rfl, q2]; rfl), rfl⟩
  by_cases n4 : x = 4
  · subst n4
    refine gz_tabIn hC 92 dX7_count_1 (by decide) (by decide) rfl (by decide) ?_
    refine gz_aload_n hC dX7_count_92 rfl ?_
    refine gz_getR (j := 0) hC dX7_count_93 cf_X7 fl_X7_12 rfl rfl (by decide) ?_
    refine gz_getIN (j := 4) hC dX7_count_96 cf_X6 fl_X7_60 rfl rfl (by decide) ?_
    exact gz_iret hC dX7_count_99 ⟨gz_v hX.2.1, rfl⟩
  by_cases n5 : x = 5
  · subst n5
    refine gz_tabIn hC 100 dX7_count_1 (by decide) (by decide) rfl (by decide) ?_
    refine gz_aload_n hC dX7_count_100 rfl ?_
    refine gz_getR (j := 4) hC dX7_count_101 cf_X7 fl_X7_42 rfl rfl (by decide) ?_
    refine gz_getIN (j := 10) hC dX7_count_104 cf_X2 fl_X7_188 rfl rfl (by decide) ?_
    exact gz_iret hC dX7_count_107 ⟨gz_v hg.2.2.1, rfl⟩
  by_cases n6 : x = 6
  · subst n6
    refine gz_tabIn hC 108 dX7_count_1 (by decide) (by decide) rfl (by decide) ?_
    refine gz_aload_n hC dX7_count_108 rfl ?_
    refine gz_getR (j := 4) hC dX7_count_109 cf_X7 fl_X7_42 rfl rfl (by decide) ?_
    refine gz_getIN (j := 11) hC dX7_count_112 cf_X2 fl_X7_191 rfl rfl (by decide) ?_
    exact gz_iret hC dX7_count_115 ⟨gz_v hg.2.2.2, rfl⟩
  refine gz_tabOut hC 116 dX7_count_1 ?_ (by decide) ?_
  · have z0 : ¬ x.toInt = 0 := fun q => n0 (Int32.toInt_inj.mp q)
    have z1 : ¬ x.toInt = 1 := fun q => n1 (Int32.toInt_inj.mp q)
    have z2 : ¬ x.toInt = 2 := fun q => n2 (Int32.toInt_inj.mp q)
    have z3 : ¬ x.toInt = 3 := fun q => n3 (Int32.toInt_inj.mp q)
    have z4 : ¬ x.toInt = 4 := fun q => n4 (Int32.toInt_inj.mp q)
    have z5 : ¬ x.toInt = 5 := fun q => n5 (Int32.toInt_inj.mp q)
    have z6 : ¬ x.toInt = 6 := fun q => n6 (Int32.toInt_inj.mp q)
    omega
  · refine gz_bipush hC (-2) dX7_count_116 (by decide) ?_
    exact gz_iret hC dX7_count_118 ⟨gz_v (by unfold sp_count; rw [if_neg n0, if_neg n1, if_neg n2, if_neg n3, if_neg n4, if_neg n5, if_neg n6]), rfl⟩
  -- places not laid: [44, 45, 48, 49, 52, 55, 56, 57, 60, 61, 64, 67, 68, 69, 72, 75, 76, 77, 80, 83, 86, 87, 90, 91, 92, 93, 96, 99, 100, 101, 104, 107, 108, 109, 112, 115, 116, 118]
set_option maxHeartbeats 4000000 in
set_option maxRecDepth 100000 in
theorem ct_X7_move (hJ : gz_inj ad lx_lay) (I : Nat → Nat → Int32) (G : Nat → Nat → UInt64) (d0 d1 F : Nat) (w : Bool) (hO : cf_ok d0 d1 F) (hX : xi_tab d0 d1 F w I) (th : Bool) (g : Nat → Int32) (hg : xi_g th g I) (hv : gv d0 d1 F th g) (x : Int32) : gz_Ct l D ad cy lx_lay yX7_move cX7_move 2 (some .int) 3 [.ref (ad 0), .int x] (I, G) (fun v M1 => ∃ I1, v = some (.int (sp_mv d0 d1 F w th g x)) ∧ M1 = (I1, G) ∧ xi_g th (sp_mg d0 d1 F w th g x) I1 ∧ ∀ o, o ≠ 23 → I1 o = I o) := by
  refine gz_met (by decide +kernel) hJ (Nat.le_of_ble_eq_true rfl) ?_
  intro p e s m args below meth c hC
  refine gz_aload_n hC dX7_move_0 rfl ?_
  refine gz_iload_n hC dX7_move_1 rfl ?_
  refine gz_callV1 hC dX7_move_2 ml_X7_115 rfl rfl (by decide) (by decide) (Nat.le_of_ble_eq_true rfl) (ct_X7_isBidOrNone hJ _ _ d0 d1 F w hO hX _) (fun v2 M2 hp2 => ?_)
  obtain ⟨rfl, rfl⟩ := hp2
  refine gz_if_ne hC 11 dX7_move_5 (by decide) (fun c5 => ?_) (fun c5 => ?_)
  · have q1 := gz_b1 c5
    refine gz_aload_n hC dX7_move_11 rfl ?_
    refine gz_getR (j := 4) hC dX7_move_12 cf_X7 fl_X7_42 rfl rfl (by decide) ?_
    refine gz_callV0 hC dX7_move_15 ml_X7_166 rfl rfl (by decide) (by decide) (Nat.le_of_ble_eq_true rfl) (ct_X2_goesOn hJ _ _ th hg.1) (fun v15 M15 hp15 => ?_)
    obtain ⟨rfl, rfl⟩ := hp15
    refine gz_if_eq hC 35 dX7_move_18 (by decide) (fun c18 => ?_) (fun c18 => ?_)
    · have q2 := gz_b0 c18
      have q4 : sp_mgo th g x = false := by
        unfold sp_mgo
        cases th with
        | false => rfl
        | true => rw [← show I 23 6 = g 2 from hg.2.1 rfl 2 (by decide), q2]; rfl
      refine gz_bipush hC (-3) dX7_move_35 (by decide) ?_
      exact gz_iret hC dX7_move_37 ⟨I, gz_v (by unfold sp_mv; rw [q1, q4]; rfl), rfl, by (have e : sp_mg d0 d1 F w th g x = g := (by unfold sp_mg; rw [q1, q4]; rfl)); rw [e]; exact hg, fun _ _ => rfl⟩
    · have q2 := gz_b1 c18
      have q5 : th = true := by cases th with | true => rfl | false => exact absurd q2 (by simp)
      refine gz_aload_n hC dX7_move_21 rfl ?_
      refine gz_getR (j := 4) hC dX7_move_22 cf_X7 fl_X7_42 rfl rfl (by decide) ?_
      refine gz_getIN (j := 7) hC dX7_move_25 cf_X2 fl_X7_170 rfl rfl (by decide) ?_
      refine gz_iload_n hC dX7_move_28 rfl ?_
      refine gz_callS2 hC dX7_move_29 ml_X7_118 (by decide) (by decide) (Nat.le_of_ble_eq_true rfl) (ct_X7_mayFollow hJ _ _ _ _) (fun v29 M29 hp29 => ?_)
      obtain ⟨rfl, rfl⟩ := hp29
      rw [show I 23 7 = g 3 from hg.2.1 q5 3 (by decide)]
      refine gz_if_ne hC 38 dX7_move_32 (by decide) (fun c32 => ?_) (fun c32 => ?_)
      · have q3 := gz_b1 c32
        have q4 : sp_mgo th g x = true := by
          unfold sp_mgo
          rw [← show I 23 6 = g 2 from hg.2.1 q5 2 (by decide), q2, q3]; rfl
        obtain ⟨⟨ha, ha1, ha2⟩, ⟨hb, hb1, hb2⟩, ⟨la, hla, hl2⟩, hm⟩ := hv q5
        have e0 : I 23 4 = g 0 := hg.2.1 q5 0 (by decide)
        have e1 : I 23 5 = g 1 := hg.2.1 q5 1 (by decide)
        have e2 : I 23 6 = g 2 := hg.2.1 q5 2 (by decide)
        have e3 : I 23 7 = g 3 := hg.2.1 q5 3 (by decide)
        have e4 : I 23 8 = g 4 := hg.2.1 q5 4 (by decide)
        have e5 : I 23 9 = g 5 := hg.2.1 q5 5 (by decide)
        refine gz_iload_n hC dX7_move_38 rfl ?_
        refine gz_iconst hC (-1) dX7_move_39 (by decide) ?_
        refine gz_icmp_ne hC 60 dX7_move_40 (by decide) (fun c40 => ?_) (fun c40 => ?_)
        · refine gz_aload_n hC dX7_move_60 rfl ?_
          refine gz_getR (j := 4) hC dX7_move_61 cf_X7 fl_X7_42 rfl rfl (by decide) ?_
          refine gz_iload_n hC dX7_move_64 rfl ?_
          refine gz_callV1 hC dX7_move_65 ml_X7_179 rfl rfl (by decide) (by decide) (Nat.le_of_ble_eq_true rfl) (ct_X2_bid hJ _ _ _) (fun v65 M65 hp65 => ?_)
          obtain ⟨rfl, rfl⟩ := hp65
          refine gz_iconst hC (0) dX7_move_68 (by decide) ?_
          exact gz_iret hC dX7_move_69 ⟨_, gz_v (by unfold sp_mv; rw [q1, q4, if_neg c40]; rfl), rfl, by (have e : sp_mg d0 d1 F w th g x = sp_gb x g := (by unfold sp_mg; rw [q1, q4, if_neg c40]; rfl)); rw [e]; exact ⟨by rw [gz_up_oth (by decide), gz_up_oth (by decide), gz_up_oth (by decide)]; exact hg.1, fun _ j hj => (match j, hj with | 0, _ => by rw [gz_up_oth (by decide), gz_up_oth (by decide), gz_up_oth (by decide)]; exact e0 | 1, _ => by rw [gz_up_oth (by decide), gz_up_oth (by decide), gz_up_oth (by decide)]; exact e1 | 2, _ => by rw [gz_up_self, e2]; rfl | 3, _ => by rw [gz_up_oth (by decide), gz_up_oth (by decide), gz_up_self]; rfl | 4, _ => by rw [gz_up_oth (by decide), gz_up_self, e4]; rfl | 5, _ => by rw [gz_up_oth (by decide), gz_up_oth (by decide), gz_up_oth (by decide)]; exact e5), by rw [gz_up_oth (by decide), gz_up_oth (by decide), gz_up_oth (by decide)]; exact hg.2.2.1, by rw [gz_up_oth (by decide), gz_up_oth (by decide), gz_up_oth (by decide)]; exact hg.2.2.2⟩, fun o ho => by rw [gz_up_ne ho, gz_up_ne ho, gz_up_ne ho]⟩
        · have q6 : gz_mf (g 3) x = true := by unfold sp_mgo at q4; rw [Bool.and_eq_true] at q4; exact q4.2
          rw [c40] at q6
          have hl0 : ¬ la = 0 := by
            intro q
            subst q
            rw [hl2] at q6
            exact absurd q6 (by decide)
          obtain ⟨k, rfl⟩ : ∃ k, la = k + 1 := ⟨la - 1, by omega⟩
          have hk : g 3 = nI k := by rw [hl2]; exact nI_pred k
          have hwin : sp_win d0 d1 F w g = cond (tb_t d0 d1 F w ha hb k) (1 - I 23 6) (I 23 6) := by
            unfold sp_win
            have T := (tb_facts hO.1).2.2.2.2.1
            have U := (tb_facts hO.2.1).2.2.2.2.1
            have B := (cf_bids hO).2
            rw [ha2, hb2, hk, nI_clamp (by omega), nI_clamp (by omega), nI_clamp (by omega), e2]
          refine gz_aload_n hC dX7_move_43 rfl ?_
          refine gz_getR (j := 4) hC dX7_move_44 cf_X7 fl_X7_42 rfl rfl (by decide) ?_
          refine gz_callV0 hC dX7_move_47 ml_X7_173 rfl rfl (by decide) (by decide) (Nat.le_of_ble_eq_true rfl) (ct_X2_end hJ _ _ d0 d1 F w hO hX ha hb k (by rw [e0, ha2]) (by rw [e1, hb2]) (by rw [e3, hk]) ha1 hb1 (by omega)) (fun v47 M47 hp47 => ?_)
          obtain ⟨J, rfl, rfl, k1, k2, k3, k4, k5, k6⟩ := hp47
          refine gz_aload_n hC dX7_move_50 rfl ?_
          refine gz_getR (j := 4) hC dX7_move_51 cf_X7 fl_X7_42 rfl rfl (by decide) ?_
          refine gz_getIN (j := 9) hC dX7_move_54 cf_X2 fl_X7_176 rfl rfl (by decide) ?_
          refine gz_iconst hC (1) dX7_move_57 (by decide) ?_
          refine gz_iadd hC dX7_move_58 ?_
          exact gz_iret hC dX7_move_59 ⟨J, gz_v (by unfold sp_mv; rw [q1, q4, if_pos c40, k3, ← hwin]; rfl), rfl, by (have e : sp_mg d0 d1 F w th g x = sp_ge (sp_win d0 d1 F w g) g := (by unfold sp_mg; rw [q1, q4, if_pos c40]; rfl)); rw [e]; exact ⟨by rw [k1 3 (by decide) (by decide) (by decide) (by decide)]; exact hg.1, fun _ j hj => (match j, hj with | 0, _ => by rw [k1 4 (by decide) (by decide) (by decide) (by decide)]; exact e0 | 1, _ => by rw [k1 5 (by decide) (by decide) (by decide) (by decide)]; exact e1 | 2, _ => k2 | 3, _ => by rw [k1 7 (by decide) (by decide) (by decide) (by decide)]; exact e3 | 4, _ => by rw [k1 8 (by decide) (by decide) (by decide) (by decide)]; exact e4 | 5, _ => by rw [k3, ← hwin]; rfl), by rw [k4, ← hwin, hg.2.2.1]; rfl, by rw [k5, ← hwin, hg.2.2.2]; rfl⟩, k6⟩
      · have q3 := gz_b0 c32
        have q4 : sp_mgo th g x = false := by unfold sp_mgo; rw [q3, Bool.and_false]
        refine gz_bipush hC (-3) dX7_move_35 (by decide) ?_
        exact gz_iret hC dX7_move_37 ⟨I, gz_v (by unfold sp_mv; rw [q1, q4]; rfl), rfl, by (have e : sp_mg d0 d1 F w th g x = g := (by unfold sp_mg; rw [q1, q4]; rfl)); rw [e]; exact hg, fun _ _ => rfl⟩
  · have q1 := gz_b0 c5
    refine gz_bipush hC (-2) dX7_move_8 (by decide) ?_
    exact gz_iret hC dX7_move_10 ⟨I, gz_v (by unfold sp_mv; rw [q1]; rfl), rfl, by (have e : sp_mg d0 d1 F w th g x = g := (by unfold sp_mg; rw [q1]; rfl)); rw [e]; exact hg, fun _ _ => rfl⟩
end CT
