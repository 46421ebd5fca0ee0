/-! shares: each weight by the sum of all there -/
def sh_wn (wt : Nat → Int32) (i : Nat) : Nat := (wt i).toNatClampNeg
def wt_ok (wt : Nat → Int32) : Prop := ∀ i, i < 3888 → wt i = nI (sh_wn wt i) ∧ sh_wn wt i ≤ 20
def sh_T (wt : Nat → Int32) (base la : Nat) : Nat → Nat := tb_sum (fun q => cond (tb_mf la q) (sh_wn wt (base + q)) 0)
def sh_one : UInt64 := 4607182418800017408
def sh_first (la : Nat) : Nat := if la = 0 then 1 else 0
/-- the share of the move one below q, behind the last bid one below la -/
def sh_v (wt : Nat → Int32) (base la bids q : Nat) : UInt64 := cond (tb_mf la q) (if sh_T wt base la (bids + 1) = 0 then (if q = sh_first la then sh_one else 0) else FP.ddiv (FP.i2d (wt (base + q))) (FP.i2d (nI (sh_T wt base la (bids + 1))))) 0
theorem tb_ix_add (plan dice h la q : Nat) : tb_ix plan dice h la q = tb_ix plan dice h la 0 + q := rfl
theorem tb_mf_first (la : Nat) : tb_mf la (sh_first la) = true := by
  unfold sh_first
  by_cases h : la = 0
  · rw [if_pos h, h]; rfl
  · rw [if_neg h]
    show (!decide (la = 0)) = true
    rw [decide_eq_false h]; rfl
theorem sh_T_le {wt : Nat → Int32} {base la : Nat} (hw : wt_ok wt) : ∀ n, base + n ≤ 3888 → sh_T wt base la n ≤ 20 * n
  | 0, _ => Nat.le_refl 0
  | n + 1, h => by
    have h1 := sh_T_le (base := base) (la := la) hw n (by omega)
    have h2 := (hw (base + n) (by omega)).2
    show sh_T wt base la n + cond (tb_mf la n) (sh_wn wt (base + n)) 0 ≤ 20 * (n + 1)
    cases tb_mf la n <;> simp only [cond_true, cond_false] <;> omega
theorem sh_b {wt : Nat → Int32} {base la bids q : Nat} (hw : wt_ok wt) (hb : base + bids + 1 ≤ 3888) (hq : q ≤ bids) (hbd : bids ≤ 8) : fp_b 1057 (sh_v wt base la bids q) := by
  unfold sh_v
  cases tb_mf la q with
  | false => exact fp_b_mono fp_b_0 (by decide)
  | true =>
    show fp_b 1057 (if _ then _ else _)
    by_cases hT : sh_T wt base la (bids + 1) = 0
    · rw [if_pos hT]
      split
      · exact fp_b_mono fp_b_1 (by decide)
      · exact fp_b_mono fp_b_0 (by decide)
    · rw [if_neg hT]
      have h1 := (hw (base + q) (by omega))
      have h2 := sh_T_le (base := base) (la := la) hw (bids + 1) (by omega)
      rw [h1.1]
      exact fp_b_div (fp_b_i2d (by omega)) (fp_b_i2d (by omega)) (fp_i2d_1 (by omega) (by omega)) (by decide) (by decide) (by decide)
def lx_sh (k : Nat) : Prop := lx_lay[k]? = some (.inl (5, [some (k + 1)])) ∧ lx_lay[k + 1]? = some (.inr (324, 1))
theorem lx_sh14 : lx_sh 14 := ⟨rfl, rfl⟩
theorem lx_sh16 : lx_sh 16 := ⟨rfl, rfl⟩
theorem lx_sh20 : lx_sh 20 := ⟨rfl, rfl⟩
section CT
variable {l : Launch} {D : va_G} {ad : Nat → Nat} {cy : Nat → ClassId}
set_option maxHeartbeats 4000000 in
set_option maxRecDepth 100000 in
theorem ct_X5_spotOf (hJ : gz_inj ad lx_lay) (I : Nat → Nat → Int32) (G : Nat → Nat → UInt64) (h la q : Nat) (x y z : Int32) (hx : x = nI h) (hy : y = nI la - 1) (hz : z = nI q - 1) : gz_Ct l D ad cy lx_lay yX5_spotOf cX5_spotOf 3 (some .int) 0 [.int x, .int y, .int z] (I, G) (fun v M1 => v = some (.int (nI ((h * 9 + la) * 9 + q))) ∧ M1 = (I, G)) := by
  refine gz_met (by decide +kernel) hJ (Nat.le_of_ble_eq_true rfl) ?_
  intro p e s m args below meth c hC
  refine gz_iload_n hC dX5_spotOf_0 rfl ?_
  refine gz_bipush hC (9) dX5_spotOf_1 (by decide) ?_
  refine gz_imul hC dX5_spotOf_3 ?_
  refine gz_iload_n hC dX5_spotOf_4 rfl ?_
  refine gz_iadd hC dX5_spotOf_5 ?_
  refine gz_iconst hC (1) dX5_spotOf_6 (by decide) ?_
  refine gz_iadd hC dX5_spotOf_7 ?_
  refine gz_bipush hC (9) dX5_spotOf_8 (by decide) ?_
  refine gz_imul hC dX5_spotOf_10 ?_
  refine gz_iload_n hC dX5_spotOf_11 rfl ?_
  refine gz_iadd hC dX5_spotOf_12 ?_
  refine gz_iconst hC (1) dX5_spotOf_13 (by decide) ?_
  refine gz_iadd hC dX5_spotOf_14 ?_
  exact gz_iret hC dX5_spotOf_15 ⟨gz_v (by rw [Int32.add_assoc _ y 1, Int32.add_assoc _ z 1, nM_to hy, nM_to hz, hx, gz_n9, pk_mul, nI_add, pk_mul, nI_add]), rfl⟩
set_option maxHeartbeats 4000000 in
set_option maxRecDepth 100000 in
theorem ct_X5_of (hJ : gz_inj ad lx_lay) (I : Nat → Nat → Int32) (G : Nat → Nat → UInt64) (k : Nat) (hK : lx_sh k) (h la q : Nat) (x y z : Int32) (hx : x = nI h) (hy : y = nI la - 1) (hz : z = nI q - 1) (hh : h < 4) (hl : la < 9) (hq : q < 9) : gz_Ct l D ad cy lx_lay yX5_of cX5_of 4 (some .double) 1 [.ref (ad k), .int x, .int y, .int z] (I, G) (fun v M1 => v = some (.double (G (k + 1) ((h * 9 + la) * 9 + q))) ∧ M1 = (I, G)) := by
  refine gz_met (by decide +kernel) hJ (Nat.le_of_ble_eq_true rfl) ?_
  intro p e s m args below meth c hC
  refine gz_aload_n hC dX5_of_0 rfl ?_
  refine gz_getR (j := 0) hC dX5_of_1 cf_X5 fl_X5_9 hK.1 rfl (by decide) ?_
  refine gz_iload_n hC dX5_of_4 rfl ?_
  refine gz_iload_n hC dX5_of_5 rfl ?_
  refine gz_iload_n hC dX5_of_6 rfl ?_
  refine gz_callS3 hC dX5_of_7 ml_X5_48 (by decide) (by decide) (Nat.le_of_ble_eq_true rfl) (ct_X5_spotOf hJ _ _ h la q _ _ _ hx hy hz) (fun v7 M7 hp7 => ?_)
  obtain ⟨rfl, rfl⟩ := hp7
  refine gz_callSN2 hC dX5_of_10 ml_X5_56 (by decide) (by decide) (Nat.le_of_ble_eq_true rfl) (ct_X7_realAt hJ _ _ (k + 1) 324 ((h * 9 + la) * 9 + q) hK.2 (by omega) _ rfl (by omega)) (fun v10 M10 hp10 => ?_)
  obtain ⟨rfl, rfl⟩ := hp10
  exact gz_dret hC dX5_of_13 ⟨rfl, rfl⟩
set_option maxHeartbeats 4000000 in
set_option maxRecDepth 100000 in
theorem ct_X5_takeMoves (hJ : gz_inj ad lx_lay) (I : Nat → Nat → Int32) (G : Nat → Nat → UInt64) (k : Nat) (hK : lx_sh k) (base h la bids : Nat) (x2 x3 x4 x5 : Int32) (hx2 : x2 = nI base) (hx3 : x3 = nI h) (hx4 : x4 = nI la - 1) (hx5 : x5 = nI bids) (hw : wt_ok (I 12)) (hbs : base + bids + 1 ≤ 3888) (hh : h < 4) (hla9 : la ≤ bids) (hbd : bids ≤ 8) (hb1 : 1 ≤ bids) (hz0 : ∀ q, q ≤ bids → G (k + 1) ((h * 9 + la) * 9 + q) = 0) : gz_Ct l D ad cy lx_lay yX5_takeMoves cX5_takeMoves 10 none 2 [.ref (ad k), .ref (ad 11), .int x2, .int x3, .int x4, .int x5] (I, G) (fun v M1 => ∃ G1, v = none ∧ M1 = (I, G1) ∧ (∀ q, q ≤ bids → G1 (k + 1) ((h * 9 + la) * 9 + q) = sh_v (I 12) base la bids q) ∧ (∀ j, j < (h * 9 + la) * 9 ∨ (h * 9 + la) * 9 + 9 ≤ j → G1 (k + 1) j = G (k + 1) j) ∧ ∀ o, o ≠ k + 1 → G1 o = G o) := by
  refine gz_met (by decide +kernel) hJ (Nat.le_of_ble_eq_true rfl) ?_
  intro p e s m args below meth c hC
  refine gz_iconst hC (0) dX5_takeMoves_0 (by decide) ?_
  refine gz_istore hC dX5_takeMoves_1 (by decide) ?_
  refine gz_iconst hC (-1) dX5_takeMoves_3 (by decide) ?_
  refine gz_istore hC dX5_takeMoves_4 (by decide) ?_
  have lp1 : ∀ (n1 q : Nat) (x6 x7 : Int32) (hi1 : q + n1 = bids + 1) (hx7 : x7 = nI q - 1) (hx6 : x6 = nI (sh_T (I 12) base la q)), gz_W p l e (gz_rm 2) s m args below meth c D ad cy lx_lay 10 (MQ below (gz_Q D ad cy lx_lay (fun v M1 => ∃ G1, v = none ∧ M1 = (I, G1) ∧ (∀ q, q ≤ bids → G1 (k + 1) ((h * 9 + la) * 9 + q) = sh_v (I 12) base la bids q) ∧ (∀ j, j < (h * 9 + la) * 9 ∨ (h * 9 + la) * 9 + 9 ≤ j → G1 (k + 1) j = G (k + 1) j) ∧ ∀ o, o ≠ k + 1 → G1 o = G o)) args s 0 0 (gz_A ad lx_lay)) (I, G) 6 [(0, .ref (ad k)), (1, .ref (ad 11)), (2, .int x2), (3, .int x3), (4, .int x4), (5, .int x5), (6, .int x6), (7, .int x7)] [] := by
    intro n1
    induction n1 with
    | zero =>
      intro q x6 x7 hi1 hx7 hx6
      refine gz_iload hC dX5_takeMoves_6 rfl ?_
      refine gz_iload hC dX5_takeMoves_8 rfl ?_
      refine gz_icmp_ge hC 44 dX5_takeMoves_10 (by decide) (fun c10 => ?_) (fun c10 => ?_)
      · refine gz_iload hC dX5_takeMoves_44 rfl ?_
        have hTl := sh_T_le (wt := I 12) (base := base) (la := la) hw (bids + 1) (by omega)
        have hx6 : x6 = nI (sh_T (I 12) base la (bids + 1)) := by rw [hx6, show q = bids + 1 by omega]
        refine gz_if_gt hC 79 dX5_takeMoves_46 (by decide) (fun c46 => ?_) (fun c46 => ?_)
        · have hT : ¬ sh_T (I 12) base la (bids + 1) = 0 := fun e => by rw [hx6, e] at c46; exact absurd c46 (by decide)
          refine gz_iconst hC (-1) dX5_takeMoves_79 (by decide) ?_
          refine gz_istore hC dX5_takeMoves_80 (by decide) ?_
          have lp2 : ∀ (n2 q : Nat) (J : Nat → Nat → UInt64) (x7 : Int32) (hi2 : q + n2 = bids + 1) (hx7 : x7 = nI q - 1) (hd : ∀ q2, q2 < q → J (k + 1) ((h * 9 + la) * 9 + q2) = sh_v (I 12) base la bids q2) (hz : ∀ q2, q ≤ q2 → q2 ≤ bids → J (k + 1) ((h * 9 + la) * 9 + q2) = 0) (hf : ∀ j, j < (h * 9 + la) * 9 ∨ (h * 9 + la) * 9 + 9 ≤ j → J (k + 1) j = G (k + 1) j) (ho : ∀ o, o ≠ k + 1 → J o = G o), gz_W p l e (gz_rm 2) s m args below meth c D ad cy lx_lay 10 (MQ below (gz_Q D ad cy lx_lay (fun v M1 => ∃ G1, v = none ∧ M1 = (I, G1) ∧ (∀ q, q ≤ bids → G1 (k + 1) ((h * 9 + la) * 9 + q) = sh_v (I 12) base la bids q) ∧ (∀ j, j < (h * 9 + la) * 9 ∨ (h * 9 + la) * 9 + 9 ≤ j → G1 (k + 1) j = G (k + 1) j) ∧ ∀ o, o ≠ k + 1 → G1 o = G o)) args s 0 0 (gz_A ad lx_lay)) (I, J) 82 [(0, .ref (ad k)), (1, .ref (ad 11)), (2, .int x2), (3, .int x3), (4, .int x4), (5, .int x5), (6, .int x6), (7, .int x7)] [] := by
            intro n2
            induction n2 with
            | zero =>
              intro q J x7 hi2 hx7 hd hz hf ho
              refine gz_iload hC dX5_takeMoves_82 rfl ?_
              refine gz_iload hC dX5_takeMoves_84 rfl ?_
              refine gz_icmp_ge hC 139 dX5_takeMoves_86 (by decide) (fun c86 => ?_) (fun c86 => ?_)
              · exact gz_vret hC dX5_takeMoves_139 ⟨J, rfl, rfl, fun q2 hq2 => hd q2 (by omega), hf, ho⟩
              · exact absurd (nM_ge hx7 hx5 (by omega) (by omega) (by omega)) c86
            | succ n2 ih2 =>
              intro q J x7 hi2 hx7 hd hz hf ho
              refine gz_iload hC dX5_takeMoves_82 rfl ?_
              refine gz_iload hC dX5_takeMoves_84 rfl ?_
              refine gz_icmp_ge hC 139 dX5_takeMoves_86 (by decide) (fun c86 => ?_) (fun c86 => ?_)
              · exact absurd c86 (nM_nge hx7 hx5 (by omega) (by omega) (by omega))
              · refine gz_iload hC dX5_takeMoves_89 rfl ?_
                refine gz_iload hC dX5_takeMoves_91 rfl ?_
                refine gz_callSN2 hC dX5_takeMoves_93 ml_X5_40 (by decide) (by decide) (Nat.le_of_ble_eq_true rfl) (ct_X7_mayFollow hJ _ _ _ _) (fun v93 M93 hp93 => ?_)
                obtain ⟨rfl, rfl⟩ := hp93
                rw [gz_mfN hx4 hx7 (by omega) (by omega)]
                refine gz_if_eq hC 133 dX5_takeMoves_96 (by decide) (fun c96 => ?_) (fun c96 => ?_)
                · have hb := gz_b0 c96
                  have hv : sh_v (I 12) base la bids q = 0 := by unfold sh_v; rw [hb]; rfl
                  refine gz_iinc hC (1) dX5_takeMoves_133 rfl (by decide) (by decide) ?_
                  refine gz_goto hC 82 dX5_takeMoves_136 (by decide) ?_
                  first
                    | (have hb1 : tb_mf la q = true := hb
                       refine gz_lw [(0, .ref (ad k)), (1, .ref (ad 11)), (2, .int x2), (3, .int x3), (4, .int x4), (5, .int x5), (6, .int x6), (7, .int (x7 + 1))] ⟨rfl, rfl, rfl, rfl, rfl, rfl, rfl, rfl, trivial⟩ ?_
                       exact ih2 (q + 1) _ _ (by omega) (nM_s hx7) (fun q2 hq2 => by by_cases e : q2 = q; (subst e; exact gz_up_self); exact (gz_up_oth (by omega)).trans (hd q2 (by omega))) (fun q2 h1 h2 => (gz_up_oth (by omega)).trans (hz q2 (by omega) h2)) (fun j hj => (gz_up_oth (by omega)).trans (hf j hj)) (fun o h1 => (gz_up_ne h1).trans (ho o h1))
                       done)
                    | (have hb1 : tb_mf la q = false := hb
                       refine gz_lw [(0, .ref (ad k)), (1, .ref (ad 11)), (2, .int x2), (3, .int x3), (4, .int x4), (5, .int x5), (6, .int x6), (7, .int (x7 + 1))] ⟨rfl, rfl, rfl, rfl, rfl, rfl, rfl, rfl, trivial⟩ ?_
                       exact ih2 (q + 1) _ _ (by omega) (nM_s hx7) (fun q2 hq2 => by by_cases e : q2 = q; (subst e; rw [hv]; exact hz q2 (Nat.le_refl _) (by omega)); exact hd q2 (by omega)) (fun q2 h1 h2 => hz q2 (by omega) h2) hf ho
                       done)
                · have hb := gz_b1 c96
                  have hv : sh_v (I 12) base la bids q = FP.ddiv (FP.i2d (I 12 (base + q))) (FP.i2d x6) := by unfold sh_v; rw [hb, if_neg hT, hx6]; rfl
                  have hn := sh_b (la := la) (bids := bids) (q := q) (base := base) hw (by omega) (by omega) hbd
                  refine gz_aload_n hC dX5_takeMoves_99 rfl ?_
                  refine gz_iload_n hC dX5_takeMoves_100 rfl ?_
                  refine gz_iconst hC (1) dX5_takeMoves_101 (by decide) ?_
                  refine gz_iadd hC dX5_takeMoves_102 ?_
                  refine gz_iload hC dX5_takeMoves_103 rfl ?_
                  refine gz_iadd hC dX5_takeMoves_105 ?_
                  refine gz_callV1 hC dX5_takeMoves_106 ml_X5_44 rfl rfl (by decide) (by decide) (Nat.le_of_ble_eq_true rfl) (ct_X4_weightAt hJ _ _ (base + q) _ (by rw [Int32.add_assoc x2, Int32.add_comm 1 x7, nM_to hx7, hx2, nI_add]) (by omega)) (fun v106 M106 hp106 => ?_)
                  obtain ⟨rfl, rfl⟩ := hp106
                  refine gz_i2d hC dX5_takeMoves_109 ?_
                  refine gz_dstore hC dX5_takeMoves_110 (by decide) ?_
                  refine gz_aload_n hC dX5_takeMoves_112 rfl ?_
                  refine gz_getR (j := 0) hC dX5_takeMoves_113 cf_X5 fl_X5_9 hK.1 rfl (by decide) ?_
                  refine gz_iload_n hC dX5_takeMoves_116 rfl ?_
                  refine gz_iload hC dX5_takeMoves_117 rfl ?_
                  refine gz_iload hC dX5_takeMoves_119 rfl ?_
                  refine gz_callS3 hC dX5_takeMoves_121 ml_X5_48 (by decide) (by decide) (Nat.le_of_ble_eq_true rfl) (ct_X5_spotOf hJ _ _ h la q _ _ _ hx3 hx4 hx7) (fun v121 M121 hp121 => ?_)
                  obtain ⟨rfl, rfl⟩ := hp121
                  refine gz_dload hC dX5_takeMoves_124 rfl ?_
                  refine gz_iload hC dX5_takeMoves_126 rfl ?_
                  refine gz_i2d hC dX5_takeMoves_128 ?_
                  refine gz_ddiv hC dX5_takeMoves_129 (by rw [← hv]; exact fp_b_n64 hn (by decide)) ?_
                  rw [← hv]
                  refine gz_callSN3 hC dX5_takeMoves_130 ml_X5_52 (by decide) (by decide) (Nat.le_of_ble_eq_true rfl) (ct_X7_putReal hJ _ _ (k + 1) 324 ((h * 9 + la) * 9 + q) hK.2 (by omega) _ _ rfl (by omega)) (fun v130 M130 hp130 => ?_)
                  obtain ⟨rfl, rfl⟩ := hp130
                  refine gz_iinc hC (1) dX5_takeMoves_133 rfl (by decide) (by decide) ?_
                  refine gz_goto hC 82 dX5_takeMoves_136 (by decide) ?_
                  first
                    | (have hb1 : tb_mf la q = true := hb
                       refine gz_lw [(0, .ref (ad k)), (1, .ref (ad 11)), (2, .int x2), (3, .int x3), (4, .int x4), (5, .int x5), (6, .int x6), (7, .int (x7 + 1))] ⟨rfl, rfl, rfl, rfl, rfl, rfl, rfl, rfl, trivial⟩ ?_
                       exact ih2 (q + 1) _ _ (by omega) (nM_s hx7) (fun q2 hq2 => by by_cases e : q2 = q; (subst e; exact gz_up_self); exact (gz_up_oth (by omega)).trans (hd q2 (by omega))) (fun q2 h1 h2 => (gz_up_oth (by omega)).trans (hz q2 (by omega) h2)) (fun j hj => (gz_up_oth (by omega)).trans (hf j hj)) (fun o h1 => (gz_up_ne h1).trans (ho o h1))
                       done)
                    | (have hb1 : tb_mf la q = false := hb
                       refine gz_lw [(0, .ref (ad k)), (1, .ref (ad 11)), (2, .int x2), (3, .int x3), (4, .int x4), (5, .int x5), (6, .int x6), (7, .int (x7 + 1))] ⟨rfl, rfl, rfl, rfl, rfl, rfl, rfl, rfl, trivial⟩ ?_
                       exact ih2 (q + 1) _ _ (by omega) (nM_s hx7) (fun q2 hq2 => by by_cases e : q2 = q; (subst e; rw [hv]; exact hz q2 (Nat.le_refl _) (by omega)); exact hd q2 (by omega)) (fun q2 h1 h2 => hz q2 (by omega) h2) hf ho
                       done)
          exact gz_lw [(0, .ref (ad k)), (1, .ref (ad 11)), (2, .int x2), (3, .int x3), (4, .int x4), (5, .int x5), (6, .int x6), (7, .int (-1))] ⟨rfl, rfl, rfl, rfl, rfl, rfl, rfl, rfl, trivial⟩ (lp2 (bids + 1) 0 G (-1) (by omega) nM_0 (fun q2 hq2 => absurd hq2 (Nat.not_lt_zero q2)) (fun q2 _ hq2 => hz0 q2 hq2) (fun _ _ => rfl) (fun _ _ => rfl))
        · have hT : sh_T (I 12) base la (bids + 1) = 0 := by rcases Nat.eq_zero_or_pos (sh_T (I 12) base la (bids + 1)) with e | e; exact e; exact absurd (by rw [hx6]; exact nI_lt e (by omega)) c46
          refine gz_iload hC dX5_takeMoves_49 rfl ?_
          refine gz_iconst hC (-1) dX5_takeMoves_51 (by decide) ?_
          refine gz_icmp_ne hC 59 dX5_takeMoves_52 (by decide) (fun c52 => ?_) (fun c52 => ?_)
          · have hla : ¬ la = 0 := fun e => c52 (by rw [hx4, e]; decide)
            have hsf : sh_first la = 0 := if_neg hla
            refine gz_iconst hC (-1) dX5_takeMoves_59 (by decide) ?_
            refine gz_istore hC dX5_takeMoves_60 (by decide) ?_
            refine gz_aload_n hC dX5_takeMoves_62 rfl ?_
            refine gz_getR (j := 0) hC dX5_takeMoves_63 cf_X5 fl_X5_9 hK.1 rfl (by decide) ?_
            refine gz_iload_n hC dX5_takeMoves_66 rfl ?_
            refine gz_iload hC dX5_takeMoves_67 rfl ?_
            refine gz_iload hC dX5_takeMoves_69 rfl ?_
            refine gz_callS3 hC dX5_takeMoves_71 ml_X5_48 (by decide) (by decide) (Nat.le_of_ble_eq_true rfl) (ct_X5_spotOf hJ _ _ h la (sh_first la) _ _ _ hx3 hx4 (by rw [hsf]; decide)) (fun v71 M71 hp71 => ?_)
            obtain ⟨rfl, rfl⟩ := hp71
            refine gz_dconst1 hC dX5_takeMoves_74 ?_
            refine gz_callSN3 hC dX5_takeMoves_75 ml_X5_52 (by decide) (by decide) (Nat.le_of_ble_eq_true rfl) (ct_X7_putReal hJ _ _ (k + 1) 324 ((h * 9 + la) * 9 + sh_first la) hK.2 (by omega) _ _ rfl (by rw [hsf]; omega)) (fun v75 M75 hp75 => ?_)
            obtain ⟨rfl, rfl⟩ := hp75
            exact gz_vret hC dX5_takeMoves_78 ⟨gz_up G (k + 1) ((h * 9 + la) * 9 + sh_first la) sh_one, rfl, rfl, fun q2 hq2 => by (by_cases e : q2 = sh_first la; (rw [e, gz_up_self]; unfold sh_v; rw [tb_mf_first, if_pos hT, if_pos rfl]; rfl); (rw [gz_up_oth (by omega), hz0 q2 hq2]; unfold sh_v; rw [if_pos hT, if_neg e]; cases tb_mf la q2 <;> rfl)), fun j hj => gz_up_oth (by omega), fun o ho => gz_up_ne ho⟩
          · have hla : la = 0 := by rcases Nat.eq_zero_or_pos la with e | e; exact e; exact absurd (c52.symm.trans hx4) (by obtain ⟨z, rfl⟩ : ∃ z, la = z + 1 := ⟨la - 1, by omega⟩; rw [nI_pred]; intro e2; have := congrArg Int32.toInt e2; rw [nI_toInt (by omega)] at this; exact absurd this (by show ¬ (-1 : Int) = _; omega))
            have hsf : sh_first la = 1 := if_pos hla
            refine gz_iconst hC (0) dX5_takeMoves_55 (by decide) ?_
            refine gz_goto hC 60 dX5_takeMoves_56 (by decide) ?_
            refine gz_istore hC dX5_takeMoves_60 (by decide) ?_
            refine gz_aload_n hC dX5_takeMoves_62 rfl ?_
            refine gz_getR (j := 0) hC dX5_takeMoves_63 cf_X5 fl_X5_9 hK.1 rfl (by decide) ?_
            refine gz_iload_n hC dX5_takeMoves_66 rfl ?_
            refine gz_iload hC dX5_takeMoves_67 rfl ?_
            refine gz_iload hC dX5_takeMoves_69 rfl ?_
            refine gz_callS3 hC dX5_takeMoves_71 ml_X5_48 (by decide) (by decide) (Nat.le_of_ble_eq_true rfl) (ct_X5_spotOf hJ _ _ h la (sh_first la) _ _ _ hx3 hx4 (by rw [hsf]; decide)) (fun v71 M71 hp71 => ?_)
            obtain ⟨rfl, rfl⟩ := hp71
            refine gz_dconst1 hC dX5_takeMoves_74 ?_
            refine gz_callSN3 hC dX5_takeMoves_75 ml_X5_52 (by decide) (by decide) (Nat.le_of_ble_eq_true rfl) (ct_X7_putReal hJ _ _ (k + 1) 324 ((h * 9 + la) * 9 + sh_first la) hK.2 (by omega) _ _ rfl (by rw [hsf]; omega)) (fun v75 M75 hp75 => ?_)
            obtain ⟨rfl, rfl⟩ := hp75
            exact gz_vret hC dX5_takeMoves_78 ⟨gz_up G (k + 1) ((h * 9 + la) * 9 + sh_first la) sh_one, rfl, rfl, fun q2 hq2 => by (by_cases e : q2 = sh_first la; (rw [e, gz_up_self]; unfold sh_v; rw [tb_mf_first, if_pos hT, if_pos rfl]; rfl); (rw [gz_up_oth (by omega), hz0 q2 hq2]; unfold sh_v; rw [if_pos hT, if_neg e]; cases tb_mf la q2 <;> rfl)), fun j hj => gz_up_oth (by omega), fun o ho => gz_up_ne ho⟩
      · exact absurd (nM_ge hx7 hx5 (by omega) (by omega) (by omega)) c10
    | succ n1 ih1 =>
      intro q x6 x7 hi1 hx7 hx6
      refine gz_iload hC dX5_takeMoves_6 rfl ?_
      refine gz_iload hC dX5_takeMoves_8 rfl ?_
      refine gz_icmp_ge hC 44 dX5_takeMoves_10 (by decide) (fun c10 => ?_) (fun c10 => ?_)
      · exact absurd c10 (nM_nge hx7 hx5 (by omega) (by omega) (by omega))
      · refine gz_iload hC dX5_takeMoves_13 rfl ?_
        refine gz_iload hC dX5_takeMoves_15 rfl ?_
        refine gz_callSN2 hC dX5_takeMoves_17 ml_X5_40 (by decide) (by decide) (Nat.le_of_ble_eq_true rfl) (ct_X7_mayFollow hJ _ _ _ _) (fun v17 M17 hp17 => ?_)
        obtain ⟨rfl, rfl⟩ := hp17
        rw [gz_mfN hx4 hx7 (by omega) (by omega)]
        refine gz_if_eq hC 38 dX5_takeMoves_20 (by decide) (fun c20 => ?_) (fun c20 => ?_)
        · have hb := gz_b0 c20
          refine gz_iinc hC (1) dX5_takeMoves_38 rfl (by decide) (by decide) ?_
          refine gz_goto hC 6 dX5_takeMoves_41 (by decide) ?_
          first
            | (have hb1 : tb_mf la q = true := hb
               refine gz_lw [(0, .ref (ad k)), (1, .ref (ad 11)), (2, .int x2), (3, .int x3), (4, .int x4), (5, .int x5), (6, .int (x6 + I 12 (base + q))), (7, .int (x7 + 1))] ⟨rfl, rfl, rfl, rfl, rfl, rfl, rfl, rfl, trivial⟩ ?_
               exact ih1 (q + 1) _ _ (by omega) (nM_s hx7) (by rw [hx6, (hw (base + q) (by omega)).1, nI_add]; show _ = nI (sh_T (I 12) base la q + cond (tb_mf la q) (sh_wn (I 12) (base + q)) 0); rw [hb1]; rfl)
               done)
            | (have hb1 : tb_mf la q = false := hb
               refine gz_lw [(0, .ref (ad k)), (1, .ref (ad 11)), (2, .int x2), (3, .int x3), (4, .int x4), (5, .int x5), (6, .int x6), (7, .int (x7 + 1))] ⟨rfl, rfl, rfl, rfl, rfl, rfl, rfl, rfl, trivial⟩ ?_
               exact ih1 (q + 1) _ _ (by omega) (nM_s hx7) (by rw [hx6]; show _ = nI (sh_T (I 12) base la q + cond (tb_mf la q) (sh_wn (I 12) (base + q)) 0); rw [hb1]; rfl)
               done)
        · have hb := gz_b1 c20
          refine gz_iload hC dX5_takeMoves_23 rfl ?_
          refine gz_aload_n hC dX5_takeMoves_25 rfl ?_
          refine gz_iload_n hC dX5_takeMoves_26 rfl ?_
          refine gz_iconst hC (1) dX5_takeMoves_27 (by decide) ?_
          refine gz_iadd hC dX5_takeMoves_28 ?_
          refine gz_iload hC dX5_takeMoves_29 rfl ?_
          refine gz_iadd hC dX5_takeMoves_31 ?_
          refine gz_callV1 hC dX5_takeMoves_32 ml_X5_44 rfl rfl (by decide) (by decide) (Nat.le_of_ble_eq_true rfl) (ct_X4_weightAt hJ _ _ (base + q) _ (by rw [Int32.add_assoc x2, Int32.add_comm 1 x7, nM_to hx7, hx2, nI_add]) (by omega)) (fun v32 M32 hp32 => ?_)
          obtain ⟨rfl, rfl⟩ := hp32
          refine gz_iadd hC dX5_takeMoves_35 ?_
          refine gz_istore hC dX5_takeMoves_36 (by decide) ?_
          refine gz_iinc hC (1) dX5_takeMoves_38 rfl (by decide) (by decide) ?_
          refine gz_goto hC 6 dX5_takeMoves_41 (by decide) ?_
          first
            | (have hb1 : tb_mf la q = true := hb
               refine gz_lw [(0, .ref (ad k)), (1, .ref (ad 11)), (2, .int x2), (3, .int x3), (4, .int x4), (5, .int x5), (6, .int (x6 + I 12 (base + q))), (7, .int (x7 + 1))] ⟨rfl, rfl, rfl, rfl, rfl, rfl, rfl, rfl, trivial⟩ ?_
               exact ih1 (q + 1) _ _ (by omega) (nM_s hx7) (by rw [hx6, (hw (base + q) (by omega)).1, nI_add]; show _ = nI (sh_T (I 12) base la q + cond (tb_mf la q) (sh_wn (I 12) (base + q)) 0); rw [hb1]; rfl)
               done)
            | (have hb1 : tb_mf la q = false := hb
               refine gz_lw [(0, .ref (ad k)), (1, .ref (ad 11)), (2, .int x2), (3, .int x3), (4, .int x4), (5, .int x5), (6, .int x6), (7, .int (x7 + 1))] ⟨rfl, rfl, rfl, rfl, rfl, rfl, rfl, rfl, trivial⟩ ?_
               exact ih1 (q + 1) _ _ (by omega) (nM_s hx7) (by rw [hx6]; show _ = nI (sh_T (I 12) base la q + cond (tb_mf la q) (sh_wn (I 12) (base + q)) 0); rw [hb1]; rfl)
               done)
  exact gz_lw [(0, .ref (ad k)), (1, .ref (ad 11)), (2, .int x2), (3, .int x3), (4, .int x4), (5, .int x5), (6, .int 0), (7, .int (-1))] ⟨rfl, rfl, rfl, rfl, rfl, rfl, rfl, rfl, trivial⟩ (lp1 (bids + 1) 0 0 (-1) (by omega) nM_0 rfl)
  -- places not laid: [8, 10, 13, 15, 17, 20, 23, 25, 26, 27, 28, 29, 31, 32, 35, 36, 38, 41, 44, 46, 49, 51, 52, 55, 56, 59, 60, 62, 63, 66, 67, 69, 71, 74, 75, 78, 79, 80, 82, 84, 86, 89, 91, 93, 96, 99, 100, 101, 102, 103, 105, 106, 109, 110, 112, 113, 116, 117, 119, 121, 124, 126, 128, 129, 130, 133, 136, 139]
set_option maxHeartbeats 4000000 in
set_option maxRecDepth 100000 in
theorem ct_X5_take (hJ : gz_inj ad lx_lay) (I : Nat → Nat → Int32) (G : Nat → Nat → UInt64) (k : Nat) (hK : lx_sh k) (kc : Nat) (hKc : lx_cup kc) (d F bids plan : Nat) (hT : tb_ok d F) (hc : xi_cup kc d F I) (x2 x4 : Int32) (hx2 : x2 = nI plan) (hx4 : x4 = nI bids) (hpl : plan < 4) (hw : wt_ok (I 12)) (hbd : bids ≤ 8) (hb1 : 1 ≤ bids) : gz_Ct l D ad cy lx_lay yX5_take cX5_take 7 none 3 [.ref (ad k), .ref (ad 11), .int x2, .ref (ad kc), .int x4] (I, G) (fun v M1 => ∃ G1, v = none ∧ M1 = (I, G1) ∧ (∀ h, h < tb_n d F → ∀ la, la ≤ bids → ∀ q, q ≤ bids → G1 (k + 1) ((h * 9 + la) * 9 + q) = sh_v (I 12) (tb_ix plan d h la 0) la bids q) ∧ ∀ o, o ≠ k + 1 → G1 o = G o) := by
  obtain ⟨T1, T2, T3, T4, T5, T6, T7, T8, T9⟩ := tb_facts hT
  refine gz_met (by decide +kernel) hJ (Nat.le_of_ble_eq_true rfl) ?_
  intro p e s m args below meth c hC
  refine gz_aload_n hC dX5_take_0 rfl ?_
  refine gz_getR (j := 0) hC dX5_take_1 cf_X5 fl_X5_9 hK.1 rfl (by decide) ?_
  refine gz_dconst0 hC dX5_take_4 ?_
  refine gz_callS2 hC dX5_take_5 ml_X5_15 (by decide) (by decide) (Nat.le_of_ble_eq_true rfl) (ct_J7_fill_7f8df hJ _ _ (k + 1) 324 hK.2 (by decide) _) (fun v5 M5 hp5 => ?_)
  obtain ⟨rfl, rfl⟩ := hp5
  refine gz_iconst hC (0) dX5_take_8 (by decide) ?_
  refine gz_istore hC dX5_take_9 (by decide) ?_
  have lp1 : ∀ (n1 h : Nat) (J : Nat → Nat → UInt64) (x5 : Int32) (hi1 : h + n1 = tb_n d F) (hx5 : x5 = nI h) (hA : ∀ h2, h2 < h → ∀ l2, l2 ≤ bids → ∀ q, q ≤ bids → J (k + 1) ((h2 * 9 + l2) * 9 + q) = sh_v (I 12) (tb_ix plan d h2 l2 0) l2 bids q) (hZ : ∀ h2, h ≤ h2 → h2 < 4 → ∀ j, j < 81 → J (k + 1) (h2 * 81 + j) = 0) (ho : ∀ o, o ≠ k + 1 → J o = G o), gz_W p l e (gz_rm 3) s m args below meth c D ad cy lx_lay 7 (MQ below (gz_Q D ad cy lx_lay (fun v M1 => ∃ G1, v = none ∧ M1 = (I, G1) ∧ (∀ h, h < tb_n d F → ∀ la, la ≤ bids → ∀ q, q ≤ bids → G1 (k + 1) ((h * 9 + la) * 9 + q) = sh_v (I 12) (tb_ix plan d h la 0) la bids q) ∧ ∀ o, o ≠ k + 1 → G1 o = G o)) args s 0 0 (gz_A ad lx_lay)) (I, J) 11 [(0, .ref (ad k)), (1, .ref (ad 11)), (2, .int x2), (3, .ref (ad kc)), (4, .int x4), (5, .int x5)] [] := by
    intro n1
    induction n1 with
    | zero =>
      intro h J x5 hi1 hx5 hA hZ ho
      refine gz_iload hC dX5_take_11 rfl ?_
      refine gz_aload_n hC dX5_take_13 rfl ?_
      refine gz_getIN (j := 5) hC dX5_take_14 cf_X1 fl_X5_21 hKc.1 rfl (by decide) ?_
      refine gz_icmp_ge hC 67 dX5_take_17 (by decide) (fun c17 => ?_) (fun c17 => ?_)
      · exact gz_vret hC dX5_take_67 ⟨J, rfl, rfl, fun h2 hh2 => hA h2 (by omega), ho⟩
      · exact absurd (gz_ile hc.2.2.1 hx5 (by omega) (by omega)) c17
    | succ n1 ih1 =>
      intro h J x5 hi1 hx5 hA hZ ho
      refine gz_iload hC dX5_take_11 rfl ?_
      refine gz_aload_n hC dX5_take_13 rfl ?_
      refine gz_getIN (j := 5) hC dX5_take_14 cf_X1 fl_X5_21 hKc.1 rfl (by decide) ?_
      refine gz_icmp_ge hC 67 dX5_take_17 (by decide) (fun c17 => ?_) (fun c17 => ?_)
      · exact absurd c17 (gz_inle hc.2.2.1 hx5 (by omega) (by omega))
      · refine gz_iconst hC (-1) dX5_take_20 (by decide) ?_
        refine gz_istore hC dX5_take_21 (by decide) ?_
        have lp2 : ∀ (n2 la : Nat) (J : Nat → Nat → UInt64) (x6 : Int32) (hi2 : la + n2 = bids + 1) (hx6 : x6 = nI la - 1) (hA : ∀ h2, h2 < h → ∀ l2, l2 ≤ bids → ∀ q, q ≤ bids → J (k + 1) ((h2 * 9 + l2) * 9 + q) = sh_v (I 12) (tb_ix plan d h2 l2 0) l2 bids q) (hB : ∀ l2, l2 < la → ∀ q, q ≤ bids → J (k + 1) ((h * 9 + l2) * 9 + q) = sh_v (I 12) (tb_ix plan d h l2 0) l2 bids q) (hZ : ∀ h2, h < h2 → h2 < 4 → ∀ j, j < 81 → J (k + 1) (h2 * 81 + j) = 0) (hY : ∀ j, la * 9 ≤ j → j < 81 → J (k + 1) (h * 81 + j) = 0) (ho : ∀ o, o ≠ k + 1 → J o = G o), gz_W p l e (gz_rm 3) s m args below meth c D ad cy lx_lay 7 (MQ below (gz_Q D ad cy lx_lay (fun v M1 => ∃ G1, v = none ∧ M1 = (I, G1) ∧ (∀ h, h < tb_n d F → ∀ la, la ≤ bids → ∀ q, q ≤ bids → G1 (k + 1) ((h * 9 + la) * 9 + q) = sh_v (I 12) (tb_ix plan d h la 0) la bids q) ∧ ∀ o, o ≠ k + 1 → G1 o = G o)) args s 0 0 (gz_A ad lx_lay)) (I, J) 23 [(0, .ref (ad k)), (1, .ref (ad 11)), (2, .int x2), (3, .ref (ad kc)), (4, .int x4), (5, .int x5), (6, .int x6)] [] := by
          intro n2
          induction n2 with
          | zero =>
            intro la J x6 hi2 hx6 hA hB hZ hY ho
            refine gz_iload hC dX5_take_23 rfl ?_
            refine gz_iload hC dX5_take_25 rfl ?_
            refine gz_icmp_ge hC 61 dX5_take_27 (by decide) (fun c27 => ?_) (fun c27 => ?_)
            · refine gz_iinc hC (1) dX5_take_61 rfl (by decide) (by decide) ?_
              refine gz_goto hC 11 dX5_take_64 (by decide) ?_
              refine gz_lw [(0, .ref (ad k)), (1, .ref (ad 11)), (2, .int x2), (3, .ref (ad kc)), (4, .int x4), (5, .int (x5 + 1))] ⟨rfl, rfl, rfl, rfl, rfl, rfl, trivial⟩ ?_
              exact ih1 (h + 1) J _ (by omega) (gz_i1 hx5) (fun h2 hh2 l2 hl2 q hq => by
                by_cases e : h2 = h
                · subst e; exact hB l2 (by omega) q hq
                · exact hA h2 (by omega) l2 hl2 q hq) (fun h2 h1 h3 j hj => hZ h2 (by omega) h3 j hj) ho
            · exact absurd (nM_ge hx6 hx4 (by omega) (by omega) (by omega)) c27
          | succ n2 ih2 =>
            intro la J x6 hi2 hx6 hA hB hZ hY ho
            refine gz_iload hC dX5_take_23 rfl ?_
            refine gz_iload hC dX5_take_25 rfl ?_
            refine gz_icmp_ge hC 61 dX5_take_27 (by decide) (fun c27 => ?_) (fun c27 => ?_)
            · exact absurd c27 (nM_nge hx6 hx4 (by omega) (by omega) (by omega))
            · refine gz_aload_n hC dX5_take_30 rfl ?_
              refine gz_aload_n hC dX5_take_31 rfl ?_
              refine gz_aload_n hC dX5_take_32 rfl ?_
              refine gz_iload_n hC dX5_take_33 rfl ?_
              refine gz_aload_n hC dX5_take_34 rfl ?_
              refine gz_getIN (j := 3) hC dX5_take_35 cf_X1 fl_X5_27 hKc.1 rfl (by decide) ?_
              refine gz_iload hC dX5_take_38 rfl ?_
              refine gz_iload hC dX5_take_40 rfl ?_
              refine gz_iconst hC (-1) dX5_take_42 (by decide) ?_
              refine gz_callV5 hC dX5_take_43 ml_X5_30 rfl rfl (by decide) (by decide) (Nat.le_of_ble_eq_true rfl) (ct_X4_spot hJ _ _ plan d h la 0 _ _ _ _ _ hx2 hc.1 hx5 hx6 nM_0 (by omega)) (fun v43 M43 hp43 => ?_)
              obtain ⟨rfl, rfl⟩ := hp43
              refine gz_iload hC dX5_take_46 rfl ?_
              refine gz_iload hC dX5_take_48 rfl ?_
              refine gz_iload hC dX5_take_50 rfl ?_
              refine gz_callV5 hC dX5_take_52 ml_X5_36 hK.1 rfl (by decide) (by decide) (Nat.le_of_ble_eq_true rfl) (ct_X5_takeMoves hJ _ _ k hK (tb_ix plan d h la 0) h la bids _ _ _ _ rfl hx5 hx6 hx4 hw (by unfold tb_ix; omega) (by omega) (by omega) hbd hb1 (fun q hq => by rw [show (h * 9 + la) * 9 + q = h * 81 + (la * 9 + q) by omega]; exact hY _ (by omega) (by omega))) (fun v52 M52 hp52 => ?_)
              obtain ⟨J2, rfl, rfl, k1, k2, k3⟩ := hp52
              refine gz_iinc hC (1) dX5_take_55 rfl (by decide) (by decide) ?_
              refine gz_goto hC 23 dX5_take_58 (by decide) ?_
              refine gz_lw [(0, .ref (ad k)), (1, .ref (ad 11)), (2, .int x2), (3, .ref (ad kc)), (4, .int x4), (5, .int x5), (6, .int (x6 + 1))] ⟨rfl, rfl, rfl, rfl, rfl, rfl, rfl, trivial⟩ ?_
              exact ih2 (la + 1) J2 _ (by omega) (nM_s hx6) (fun h2 hh2 l2 hl2 q hq => (k2 _ (by omega)).trans (hA h2 hh2 l2 hl2 q hq)) (fun l2 hl2 q hq => by
                by_cases e : l2 = la
                · subst e; exact k1 q hq
                · exact (k2 _ (by omega)).trans (hB l2 (by omega) q hq)) (fun h2 h1 h3 j hj => (k2 _ (by omega)).trans (hZ h2 h1 h3 j hj)) (fun j h1 h3 => (k2 _ (by omega)).trans (hY j (by omega) h3)) (fun o h1 => (k3 o h1).trans (ho o h1))
        exact gz_lw [(0, .ref (ad k)), (1, .ref (ad 11)), (2, .int x2), (3, .ref (ad kc)), (4, .int x4), (5, .int x5), (6, .int (-1))] ⟨rfl, rfl, rfl, rfl, rfl, rfl, rfl, trivial⟩ (lp2 (bids + 1) 0 J (-1) (by omega) nM_0 hA (fun l2 hl2 => absurd hl2 (Nat.not_lt_zero l2)) (fun h2 h1 h3 j hj => hZ h2 (by omega) h3 j hj) (fun j _ h3 => hZ h (Nat.le_refl h) (by omega) j h3) ho)
  exact gz_lw [(0, .ref (ad k)), (1, .ref (ad 11)), (2, .int x2), (3, .ref (ad kc)), (4, .int x4), (5, .int 0)] ⟨rfl, rfl, rfl, rfl, rfl, rfl, trivial⟩ (lp1 (tb_n d F) 0 _ 0 (by omega) rfl (fun h2 hh2 => absurd hh2 (Nat.not_lt_zero h2)) (fun h2 _ h3 j hj => gz_fi_in (by omega)) (fun o h1 => gz_fi_ne h1))
  -- places not laid: [13, 14, 17, 20, 21, 23, 25, 27, 30, 31, 32, 33, 34, 35, 38, 40, 42, 43, 46, 48, 50, 52, 55, 58, 61, 64, 67]
end CT
