/-! the best answer: behind a last bid, each by the greater last bids -/
section CT
variable {l : Launch} {D : va_G} {ad : Nat → Nat} {cy : Nat → ClassId}
def an_C (l : Launch) (D : va_G) (ad : Nat → Nat) (cy : Nat → ClassId) (d0 d1 F : Nat) (w : Bool) (pl own : Nat) (S : Nat → Nat → Nat → UInt64) (n : Nat) : Prop := ∀ (I : Nat → Nat → Int32) (G : Nat → Nat → UInt64) (mv : Nat) (R : Nat → UInt64) (K la row dep : Nat) (hX : an_w d0 d1 F w pl own S I G) (hK : 1024 ≤ K) (hRb : ∀ k, k < an_nO d0 d1 F pl → fp_b K (R k)) (hR : ∀ k, k < an_nO d0 d1 F pl → G 22 (row * 4 + k) = R k) (hla : la ≤ (d0 + d1) * F) (hrow : row ≤ la) (hdep : dep ≤ la) (hKn : K + 8 + 60 * n ≤ 1990) (hn : ((d0 + d1) * F) + 1 ≤ la + n) (hmv : mv < 2) (x1 x2 x3 x4 : Int32) (hx1 : x1 = nI la - 1) (hx2 : x2 = nI mv) (hx3 : x3 = nI row) (hx4 : x4 = nI dep), gz_Ct l D ad cy lx_lay yX0_value cX0_value 5 (some .double) (2 * n + 3) [.ref (ad 19), .int x1, .int x2, .int x3, .int x4] (I, G) (fun v M1 => ∃ I1 G1, v = some (.double (an_V (an_nO d0 d1 F pl) ((d0 + d1) * F) (an_t d0 d1 F w pl own) S n (decide (mv = pl)) la R)) ∧ M1 = (I1, G1) ∧ an_fr I I1 ∧ an_gr (4 * (row + 1)) G G1 ∧ (mv = pl → 1 ≤ n → I1 19 5 = nI (an_best (an_nO d0 d1 F pl) ((d0 + d1) * F) (an_t d0 d1 F w pl own) S (n - 1) la R) - 1))
set_option maxHeartbeats 4000000 in
set_option maxRecDepth 100000 in
theorem ct_X0_ownValue (hJ : gz_inj ad lx_lay) (d0 d1 F : Nat) (w : Bool) (hO : cf_ok d0 d1 F) (pl own : Nat) (hp : pl < 2) (ho : own < tb_n (tb_d d0 d1 pl) F) (S : Nat → Nat → Nat → UInt64) (hA : an_ok (an_nO d0 d1 F pl) ((d0 + d1) * F) S) (n : Nat) (ihV : an_C l D ad cy d0 d1 F w pl own S n) (I : Nat → Nat → Int32) (G : Nat → Nat → UInt64) (R : Nat → UInt64) (K la row dep : Nat) (hX : an_w d0 d1 F w pl own S I G) (hK : 1024 ≤ K) (hRb : ∀ k, k < an_nO d0 d1 F pl → fp_b K (R k)) (hR : ∀ k, k < an_nO d0 d1 F pl → G 22 (row * 4 + k) = R k) (hla : la ≤ (d0 + d1) * F) (hrow : row ≤ la) (hdep : dep ≤ la) (hKn : K + 8 + 60 * (n + 1) ≤ 1990) (hn : ((d0 + d1) * F) + 1 ≤ la + (n + 1)) (x1 x3 x4 : Int32) (hx1 : x1 = nI la - 1) (hx3 : x3 = nI row) (hx4 : x4 = nI dep) : gz_Ct l D ad cy lx_lay yX0_ownValue cX0_ownValue 10 (some .double) (2 * n + 4) [.ref (ad 19), .int x1, .int x3, .int x4] (I, G) (fun v M1 => ∃ I1 G1, v = some (.double (an_V (an_nO d0 d1 F pl) ((d0 + d1) * F) (an_t d0 d1 F w pl own) S (n + 1) true la R)) ∧ M1 = (I1, G1) ∧ an_fr I I1 ∧ an_gr (4 * (row + 1)) G G1 ∧ I1 19 5 = nI (an_best (an_nO d0 d1 F pl) ((d0 + d1) * F) (an_t d0 d1 F w pl own) S n la R) - 1) := by
  have hn4 := hA.1
  have hb8 := hA.2.1
  have hb2 := hA.2.2.1
  refine gz_met (by decide +kernel) hJ (Nat.le_of_ble_eq_true rfl) ?_
  intro p e s m args below meth c hC
  have lp : ∀ (n2 q : Nat) (J1 : Nat → Nat → Int32) (J2 : Nat → Nat → UInt64) (z4 x7 : Int32) (y : UInt64) (hi : q + n2 = ((d0 + d1) * F) + 1) (hlq : la < q) (hx7 : x7 = nI q - 1) (hz4 : z4 = nI (an_o (an_ow (an_nO d0 d1 F pl) ((d0 + d1) * F) (an_t d0 d1 F w pl own) S n la R) la q).2.2 - 1) (hy : y = (an_o (an_ow (an_nO d0 d1 F pl) ((d0 + d1) * F) (an_t d0 d1 F w pl own) S n la R) la q).2.1) (h1 : (an_o (an_ow (an_nO d0 d1 F pl) ((d0 + d1) * F) (an_t d0 d1 F w pl own) S n la R) la q).1 = true) (hf : an_fr I J1) (hg : an_gr (4 * (row + 1)) G J2), gz_W p l e (gz_rm (2 * n + 4)) s m args below meth c D ad cy lx_lay 10 (MQ below (gz_Q D ad cy lx_lay (fun v M1 => ∃ I1 G1, v = some (.double (an_V (an_nO d0 d1 F pl) ((d0 + d1) * F) (an_t d0 d1 F w pl own) S (n + 1) true la R)) ∧ M1 = (I1, G1) ∧ an_fr I I1 ∧ an_gr (4 * (row + 1)) G G1 ∧ I1 19 5 = nI (an_best (an_nO d0 d1 F pl) ((d0 + d1) * F) (an_t d0 d1 F w pl own) S n la R) - 1)) args s 0 0 (gz_A ad lx_lay)) (J1, J2) 68 [(0, .ref (ad 19)), (1, .int x1), (2, .int x3), (3, .int x4), (4, .int z4), (5, .double y), (7, .int x7)] [] := by
    intro n2
    induction n2 with
    | zero =>
      intro q J1 J2 z4 x7 y hi hlq hx7 hz4 hy h1 hf hg
      refine gz_iload hC dX0_ownValue_68 rfl ?_
      refine gz_aload_n hC dX0_ownValue_70 rfl ?_
      refine gz_getR (j := 0) hC dX0_ownValue_71 cf_X0 fl_X0_22 rfl rfl (by decide) ?_
      refine gz_getIN (j := 4) hC dX0_ownValue_74 cf_X6 fl_X0_34 rfl rfl (by decide) ?_
      rw [show J1 1 4 = nI ((d0 + d1) * F) from (an_w_fr hX hf hg).1.2.1]
      refine gz_icmp_ge hC 120 dX0_ownValue_77 (by decide) (fun c77 => ?_) (fun c77 => ?_)
      · refine gz_aload_n hC dX0_ownValue_120 rfl ?_
        refine gz_iload hC dX0_ownValue_121 rfl ?_
        refine gz_put (j := 5) hC dX0_ownValue_123 cf_X0 fl_X0_68 rfl rfl (by decide) rfl rfl rfl ?_
        refine gz_dload hC dX0_ownValue_126 rfl ?_
        exact gz_dret hC dX0_ownValue_128 ⟨_, J2, by rw [hy, show q = ((d0 + d1) * F) + 1 by omega]; rfl, rfl, an_fr_up hf, hg, by rw [gz_up_self, hz4, show q = ((d0 + d1) * F) + 1 by omega]; rfl⟩
      · exact absurd (nM_ge hx7 rfl (by omega) (by omega) (by omega)) c77
    | succ n2 lpi =>
      intro q J1 J2 z4 x7 y hi hlq hx7 hz4 hy h1 hf hg
      refine gz_iload hC dX0_ownValue_68 rfl ?_
      refine gz_aload_n hC dX0_ownValue_70 rfl ?_
      refine gz_getR (j := 0) hC dX0_ownValue_71 cf_X0 fl_X0_22 rfl rfl (by decide) ?_
      refine gz_getIN (j := 4) hC dX0_ownValue_74 cf_X6 fl_X0_34 rfl rfl (by decide) ?_
      rw [show J1 1 4 = nI ((d0 + d1) * F) from (an_w_fr hX hf hg).1.2.1]
      refine gz_icmp_ge hC 120 dX0_ownValue_77 (by decide) (fun c77 => ?_) (fun c77 => ?_)
      · exact absurd c77 (nM_nge hx7 rfl (by omega) (by omega) (by omega))
      · refine gz_aload_n hC dX0_ownValue_80 rfl ?_
        refine gz_iload hC dX0_ownValue_81 rfl ?_
        refine gz_iconst hC (1) dX0_ownValue_83 (by decide) ?_
        refine gz_aload_n hC dX0_ownValue_84 rfl ?_
        refine gz_getI (j := 3) hC dX0_ownValue_85 cf_X0 fl_X0_26 rfl rfl (by decide) ?_
        refine gz_isub hC dX0_ownValue_88 ?_
        refine gz_iload_n hC dX0_ownValue_89 rfl ?_
        refine gz_iload_n hC dX0_ownValue_90 rfl ?_
        refine gz_iconst hC (1) dX0_ownValue_91 (by decide) ?_
        refine gz_iadd hC dX0_ownValue_92 ?_
        rw [show (1 : Int32) - J1 19 3 = nI (1 - pl) by rw [(an_w_fr hX hf hg).2.1, show (1 : Int32) = nI 1 from rfl, pk_sub (by omega)]]
        refine gz_callV4 hC dX0_ownValue_93 ml_X0_60 rfl rfl (by omega) (by decide) (Nat.le_of_ble_eq_true rfl) (ihV _ _ (1 - pl) R K q row (dep + 1) (an_w_fr hX hf hg) hK hRb (fun k hk => (hg 22 _ (Or.inr (by omega))).trans (hR k hk)) (by omega) (by omega) (by omega) (by omega) (by omega) (by omega) _ _ _ _ hx7 rfl hx3 (by rw [hx4]; exact nI_1 dep)) (fun v93 M93 hp93 => ?_)
        obtain ⟨J3, J4, rfl, rfl, hf2, hg2, _⟩ := hp93
        rw [show decide (1 - pl = pl) = false from decide_eq_false (by omega)]
        have hW : (an_ow (an_nO d0 d1 F pl) ((d0 + d1) * F) (an_t d0 d1 F w pl own) S n la R) q = an_V (an_nO d0 d1 F pl) ((d0 + d1) * F) (an_t d0 d1 F w pl own) S n false q R := if_neg (by omega)
        have hmf : tb_mf la q = true := by unfold tb_mf; rw [decide_eq_false (show ¬ q = 0 by omega), decide_eq_true hlq]; rfl
        rw [← hW]
        refine gz_dstore hC dX0_ownValue_96 (by decide) ?_
        refine gz_dload hC dX0_ownValue_98 rfl ?_
        refine gz_dload hC dX0_ownValue_100 rfl ?_
        refine gz_dcmp hC dX0_ownValue_102 ?_
        refine gz_if_le hC 114 dX0_ownValue_103 (by decide) (fun c103 => ?_) (fun c103 => ?_)
        · have hv := fp_leF c103
          refine gz_iinc hC (1) dX0_ownValue_114 rfl (by decide) (by decide) ?_
          refine gz_goto hC 68 dX0_ownValue_117 (by decide) ?_
          first
            | (have hv1 : fp_gt ((an_ow (an_nO d0 d1 F pl) ((d0 + d1) * F) (an_t d0 d1 F w pl own) S n la R) q) y = false := hv
               have hs : (an_o (an_ow (an_nO d0 d1 F pl) ((d0 + d1) * F) (an_t d0 d1 F w pl own) S n la R) la (q + 1)) = (an_o (an_ow (an_nO d0 d1 F pl) ((d0 + d1) * F) (an_t d0 d1 F w pl own) S n la R) la q) := by
                 show (cond (tb_mf la q && (!(an_o (an_ow (an_nO d0 d1 F pl) ((d0 + d1) * F) (an_t d0 d1 F w pl own) S n la R) la q).1 || fp_gt ((an_ow (an_nO d0 d1 F pl) ((d0 + d1) * F) (an_t d0 d1 F w pl own) S n la R) q) (an_o (an_ow (an_nO d0 d1 F pl) ((d0 + d1) * F) (an_t d0 d1 F w pl own) S n la R) la q).2.1)) (true, (an_ow (an_nO d0 d1 F pl) ((d0 + d1) * F) (an_t d0 d1 F w pl own) S n la R) q, q) (an_o (an_ow (an_nO d0 d1 F pl) ((d0 + d1) * F) (an_t d0 d1 F w pl own) S n la R) la q)) = _
                 rw [hmf, h1, ← hy, hv1]
                 rfl
               refine gz_lw [(0, .ref (ad 19)), (1, .int x1), (2, .int x3), (3, .int x4), (4, .int z4), (5, .double y), (7, .int (x7 + 1))] ⟨rfl, rfl, rfl, rfl, rfl, rfl, rfl, trivial⟩ ?_
               exact lpi (q + 1) _ _ _ _ _ (by omega) (by omega) (nM_s hx7) (by rw [hs]; exact hz4) (by rw [hs]; exact hy) (by rw [hs]; exact h1) (an_fr_t hf hf2) (an_gr_t hg hg2 (Nat.le_refl _))
               done)
            | (have hv1 : fp_gt ((an_ow (an_nO d0 d1 F pl) ((d0 + d1) * F) (an_t d0 d1 F w pl own) S n la R) q) y = true := hv
               have hs : (an_o (an_ow (an_nO d0 d1 F pl) ((d0 + d1) * F) (an_t d0 d1 F w pl own) S n la R) la (q + 1)) = (true, (an_ow (an_nO d0 d1 F pl) ((d0 + d1) * F) (an_t d0 d1 F w pl own) S n la R) q, q) := by
                 show (cond (tb_mf la q && (!(an_o (an_ow (an_nO d0 d1 F pl) ((d0 + d1) * F) (an_t d0 d1 F w pl own) S n la R) la q).1 || fp_gt ((an_ow (an_nO d0 d1 F pl) ((d0 + d1) * F) (an_t d0 d1 F w pl own) S n la R) q) (an_o (an_ow (an_nO d0 d1 F pl) ((d0 + d1) * F) (an_t d0 d1 F w pl own) S n la R) la q).2.1)) (true, (an_ow (an_nO d0 d1 F pl) ((d0 + d1) * F) (an_t d0 d1 F w pl own) S n la R) q, q) (an_o (an_ow (an_nO d0 d1 F pl) ((d0 + d1) * F) (an_t d0 d1 F w pl own) S n la R) la q)) = _
                 rw [hmf, h1, ← hy, hv1]
                 rfl
               refine gz_lw [(0, .ref (ad 19)), (1, .int x1), (2, .int x3), (3, .int x4), (4, .int x7), (5, .double ((an_ow (an_nO d0 d1 F pl) ((d0 + d1) * F) (an_t d0 d1 F w pl own) S n la R) q)), (7, .int (x7 + 1))] ⟨rfl, rfl, rfl, rfl, rfl, rfl, rfl, trivial⟩ ?_
               exact lpi (q + 1) _ _ _ _ _ (by omega) (by omega) (nM_s hx7) (by rw [hs]; exact hx7) (by rw [hs]) (by rw [hs]) (an_fr_t hf hf2) (an_gr_t hg hg2 (Nat.le_refl _))
               done)
        · have hv := fp_leT c103
          refine gz_dload hC dX0_ownValue_106 rfl ?_
          refine gz_dstore hC dX0_ownValue_108 (by decide) ?_
          refine gz_iload hC dX0_ownValue_110 rfl ?_
          refine gz_istore hC dX0_ownValue_112 (by decide) ?_
          refine gz_iinc hC (1) dX0_ownValue_114 rfl (by decide) (by decide) ?_
          refine gz_goto hC 68 dX0_ownValue_117 (by decide) ?_
          first
            | (have hv1 : fp_gt ((an_ow (an_nO d0 d1 F pl) ((d0 + d1) * F) (an_t d0 d1 F w pl own) S n la R) q) y = false := hv
               have hs : (an_o (an_ow (an_nO d0 d1 F pl) ((d0 + d1) * F) (an_t d0 d1 F w pl own) S n la R) la (q + 1)) = (an_o (an_ow (an_nO d0 d1 F pl) ((d0 + d1) * F) (an_t d0 d1 F w pl own) S n la R) la q) := by
                 show (cond (tb_mf la q && (!(an_o (an_ow (an_nO d0 d1 F pl) ((d0 + d1) * F) (an_t d0 d1 F w pl own) S n la R) la q).1 || fp_gt ((an_ow (an_nO d0 d1 F pl) ((d0 + d1) * F) (an_t d0 d1 F w pl own) S n la R) q) (an_o (an_ow (an_nO d0 d1 F pl) ((d0 + d1) * F) (an_t d0 d1 F w pl own) S n la R) la q).2.1)) (true, (an_ow (an_nO d0 d1 F pl) ((d0 + d1) * F) (an_t d0 d1 F w pl own) S n la R) q, q) (an_o (an_ow (an_nO d0 d1 F pl) ((d0 + d1) * F) (an_t d0 d1 F w pl own) S n la R) la q)) = _
                 rw [hmf, h1, ← hy, hv1]
                 rfl
               refine gz_lw [(0, .ref (ad 19)), (1, .int x1), (2, .int x3), (3, .int x4), (4, .int z4), (5, .double y), (7, .int (x7 + 1))] ⟨rfl, rfl, rfl, rfl, rfl, rfl, rfl, trivial⟩ ?_
               exact lpi (q + 1) _ _ _ _ _ (by omega) (by omega) (nM_s hx7) (by rw [hs]; exact hz4) (by rw [hs]; exact hy) (by rw [hs]; exact h1) (an_fr_t hf hf2) (an_gr_t hg hg2 (Nat.le_refl _))
               done)
            | (have hv1 : fp_gt ((an_ow (an_nO d0 d1 F pl) ((d0 + d1) * F) (an_t d0 d1 F w pl own) S n la R) q) y = true := hv
               have hs : (an_o (an_ow (an_nO d0 d1 F pl) ((d0 + d1) * F) (an_t d0 d1 F w pl own) S n la R) la (q + 1)) = (true, (an_ow (an_nO d0 d1 F pl) ((d0 + d1) * F) (an_t d0 d1 F w pl own) S n la R) q, q) := by
                 show (cond (tb_mf la q && (!(an_o (an_ow (an_nO d0 d1 F pl) ((d0 + d1) * F) (an_t d0 d1 F w pl own) S n la R) la q).1 || fp_gt ((an_ow (an_nO d0 d1 F pl) ((d0 + d1) * F) (an_t d0 d1 F w pl own) S n la R) q) (an_o (an_ow (an_nO d0 d1 F pl) ((d0 + d1) * F) (an_t d0 d1 F w pl own) S n la R) la q).2.1)) (true, (an_ow (an_nO d0 d1 F pl) ((d0 + d1) * F) (an_t d0 d1 F w pl own) S n la R) q, q) (an_o (an_ow (an_nO d0 d1 F pl) ((d0 + d1) * F) (an_t d0 d1 F w pl own) S n la R) la q)) = _
                 rw [hmf, h1, ← hy, hv1]
                 rfl
               refine gz_lw [(0, .ref (ad 19)), (1, .int x1), (2, .int x3), (3, .int x4), (4, .int x7), (5, .double ((an_ow (an_nO d0 d1 F pl) ((d0 + d1) * F) (an_t d0 d1 F w pl own) S n la R) q)), (7, .int (x7 + 1))] ⟨rfl, rfl, rfl, rfl, rfl, rfl, rfl, trivial⟩ ?_
               exact lpi (q + 1) _ _ _ _ _ (by omega) (by omega) (nM_s hx7) (by rw [hs]; exact hx7) (by rw [hs]) (by rw [hs]) (an_fr_t hf hf2) (an_gr_t hg hg2 (Nat.le_refl _))
               done)
  refine gz_iload_n hC dX0_ownValue_0 rfl ?_
  refine gz_iconst hC (-1) dX0_ownValue_1 (by decide) ?_
  refine gz_icmp_ne hC 9 dX0_ownValue_2 (by decide) (fun c2 => ?_) (fun c2 => ?_)
  · have hl0 : ¬ la = 0 := fun q => c2 (by rw [hx1, q]; rfl)
    refine gz_iconst hC (-1) dX0_ownValue_9 (by decide) ?_
    refine gz_istore hC dX0_ownValue_10 (by decide) ?_
    refine gz_dconst0 hC dX0_ownValue_12 ?_
    refine gz_dstore hC dX0_ownValue_13 (by decide) ?_
    refine gz_iload hC dX0_ownValue_15 rfl ?_
    refine gz_iconst hC (-1) dX0_ownValue_17 (by decide) ?_
    refine gz_icmp_ne hC 37 dX0_ownValue_18 (by decide) (fun c18 => ?_) (fun c18 => ?_)
    · exact absurd rfl c18
    · refine gz_aload_n hC dX0_ownValue_21 rfl ?_
      refine gz_dconst0 hC dX0_ownValue_22 ?_
      refine gz_aload_n hC dX0_ownValue_23 rfl ?_
      refine gz_getI (j := 3) hC dX0_ownValue_24 cf_X0 fl_X0_26 rfl rfl (by decide) ?_
      refine gz_iload_n hC dX0_ownValue_27 rfl ?_
      refine gz_iload_n hC dX0_ownValue_28 rfl ?_
      refine gz_callV4 hC dX0_ownValue_29 ml_X0_89 rfl rfl (by omega) (by decide) (Nat.le_of_ble_eq_true rfl) (ct_X0_addCallWins hJ _ _ d0 d1 F w hO pl own hp ho S hA hX R K la row pl 0 hK (by omega) (fp_b_mono fp_b_0 (by omega)) hRb hR (by omega) hla (by omega) hp _ _ _ hX.2.1 hx1 hx3) (fun v29 M29 hp29 => ?_)
      obtain ⟨rfl, rfl⟩ := hp29
      refine gz_dstore hC dX0_ownValue_32 (by decide) ?_
      refine gz_goto hC 54 dX0_ownValue_34 (by decide) ?_
      refine gz_iload_n hC dX0_ownValue_54 rfl ?_
      refine gz_iconst hC (-1) dX0_ownValue_55 (by decide) ?_
      refine gz_icmp_ne hC 63 dX0_ownValue_56 (by decide) (fun c56 => ?_) (fun c56 => ?_)
      · refine gz_iload_n hC dX0_ownValue_63 rfl ?_
        refine gz_iconst hC (1) dX0_ownValue_64 (by decide) ?_
        refine gz_iadd hC dX0_ownValue_65 ?_
        refine gz_istore hC dX0_ownValue_66 (by decide) ?_
        have hs : (an_o (an_ow (an_nO d0 d1 F pl) ((d0 + d1) * F) (an_t d0 d1 F w pl own) S n la R) la (la + 1)) = (true, an_cs (fun k => decide (pl = pl) != an_t d0 d1 F w pl own la k) R 0 (an_nO d0 d1 F pl), 0) := by
          rw [an_o_mid la (Nat.le_refl la)]
          show cond (tb_mf la 0 && (!false || fp_gt ((an_ow (an_nO d0 d1 F pl) ((d0 + d1) * F) (an_t d0 d1 F w pl own) S n la R) 0) 0)) (true, (an_ow (an_nO d0 d1 F pl) ((d0 + d1) * F) (an_t d0 d1 F w pl own) S n la R) 0, 0) (false, 0, 0) = _
          rw [show tb_mf la 0 = true by unfold tb_mf; rw [decide_eq_true rfl, decide_eq_false hl0]; rfl, show (an_ow (an_nO d0 d1 F pl) ((d0 + d1) * F) (an_t d0 d1 F w pl own) S n la R) 0 = an_cs (fun k => decide (pl = pl) != an_t d0 d1 F w pl own la k) R 0 (an_nO d0 d1 F pl) by rw [decide_eq_true rfl]; show an_cs _ _ _ _ = _; congr 1; funext k; exact (Bool.true_xor _).symm]
          rfl
        refine gz_lw [(0, .ref (ad 19)), (1, .int x1), (2, .int x3), (3, .int x4), (4, .int (-1)), (5, .double (an_cs (fun k => decide (pl = pl) != an_t d0 d1 F w pl own la k) R 0 (an_nO d0 d1 F pl))), (7, .int (x1 + 1))] ⟨rfl, rfl, rfl, rfl, rfl, rfl, rfl, trivial⟩ ?_
        exact lp (((d0 + d1) * F) - la) (la + 1) I G (-1) _ _ (by omega) (by omega) (nM_s hx1) (by rw [hs]; rfl) (by rw [hs]) (by rw [hs]) an_fr_0 an_gr_0
      · exact absurd (hx1.symm.trans c56) (by intro q; exact hl0 ((nI_eq (b := 0) (by omega) (by omega)).mp (by rw [← nM_to (x := nI la - 1) rfl, q]; rfl)))
  · have hl0 : la = 0 := by
      have q := nM_to hx1
      rw [c2] at q
      exact ((nI_eq (a := 0) (b := la) (by omega) (by omega)).mp q).symm
    refine gz_iconst hC (0) dX0_ownValue_5 (by decide) ?_
    refine gz_goto hC 10 dX0_ownValue_6 (by decide) ?_
    refine gz_istore hC dX0_ownValue_10 (by decide) ?_
    refine gz_dconst0 hC dX0_ownValue_12 ?_
    refine gz_dstore hC dX0_ownValue_13 (by decide) ?_
    refine gz_iload hC dX0_ownValue_15 rfl ?_
    refine gz_iconst hC (-1) dX0_ownValue_17 (by decide) ?_
    refine gz_icmp_ne hC 37 dX0_ownValue_18 (by decide) (fun c18 => ?_) (fun c18 => ?_)
    · refine gz_aload_n hC dX0_ownValue_37 rfl ?_
      refine gz_iconst hC (0) dX0_ownValue_38 (by decide) ?_
      refine gz_iconst hC (1) dX0_ownValue_39 (by decide) ?_
      refine gz_aload_n hC dX0_ownValue_40 rfl ?_
      refine gz_getI (j := 3) hC dX0_ownValue_41 cf_X0 fl_X0_26 rfl rfl (by decide) ?_
      refine gz_isub hC dX0_ownValue_44 ?_
      refine gz_iload_n hC dX0_ownValue_45 rfl ?_
      refine gz_iload_n hC dX0_ownValue_46 rfl ?_
      refine gz_iconst hC (1) dX0_ownValue_47 (by decide) ?_
      refine gz_iadd hC dX0_ownValue_48 ?_
      rw [show (1 : Int32) - I 19 3 = nI (1 - pl) by rw [hX.2.1, show (1 : Int32) = nI 1 from rfl, pk_sub (by omega)]]
      refine gz_callV4 hC dX0_ownValue_49 ml_X0_60 rfl rfl (by omega) (by decide) (Nat.le_of_ble_eq_true rfl) (ihV _ _ (1 - pl) R K 1 row (dep + 1) hX hK hRb hR (by omega) (by omega) (by omega) (by omega) (by omega) (by omega) _ _ _ _ (by decide) rfl hx3 (by rw [hx4]; exact nI_1 dep)) (fun v49 M49 hp49 => ?_)
      obtain ⟨J3, J4, rfl, rfl, hf2, hg2, _⟩ := hp49
      rw [show decide (1 - pl = pl) = false from decide_eq_false (by omega)]
      refine gz_dstore hC dX0_ownValue_52 (by decide) ?_
      refine gz_iload_n hC dX0_ownValue_54 rfl ?_
      refine gz_iconst hC (-1) dX0_ownValue_55 (by decide) ?_
      refine gz_icmp_ne hC 63 dX0_ownValue_56 (by decide) (fun c56 => ?_) (fun c56 => ?_)
      · exact absurd (by rw [hx1, hl0]; rfl) c56
      · refine gz_iconst hC (1) dX0_ownValue_59 (by decide) ?_
        refine gz_goto hC 66 dX0_ownValue_60 (by decide) ?_
        refine gz_istore hC dX0_ownValue_66 (by decide) ?_
        have hs : (an_o (an_ow (an_nO d0 d1 F pl) ((d0 + d1) * F) (an_t d0 d1 F w pl own) S n la R) la 2) = (true, an_V (an_nO d0 d1 F pl) ((d0 + d1) * F) (an_t d0 d1 F w pl own) S n false 1 R, 1) := by
          subst hl0
          rfl
        refine gz_lw [(0, .ref (ad 19)), (1, .int x1), (2, .int x3), (3, .int x4), (4, .int 0), (5, .double (an_V (an_nO d0 d1 F pl) ((d0 + d1) * F) (an_t d0 d1 F w pl own) S n false 1 R)), (7, .int 1)] ⟨rfl, rfl, rfl, rfl, rfl, rfl, rfl, trivial⟩ ?_
        exact lp (((d0 + d1) * F) - 1) 2 J3 J4 0 _ _ (by omega) (by omega) (by decide) (by rw [hs]; show (0 : Int32) = nI 1 - 1; decide) (by rw [hs]) (by rw [hs]) hf2 hg2
    · exact absurd c18 (by decide)
set_option maxHeartbeats 4000000 in
set_option maxRecDepth 100000 in
theorem ct_X0_otherValue (hJ : gz_inj ad lx_lay) (d0 d1 F : Nat) (w : Bool) (hO : cf_ok d0 d1 F) (pl own : Nat) (hp : pl < 2) (ho : own < tb_n (tb_d d0 d1 pl) F) (S : Nat → Nat → Nat → UInt64) (hA : an_ok (an_nO d0 d1 F pl) ((d0 + d1) * F) S) (n : Nat) (ihV : an_C l D ad cy d0 d1 F w pl own S n) (I : Nat → Nat → Int32) (G : Nat → Nat → UInt64) (R : Nat → UInt64) (K la row dep : Nat) (hX : an_w d0 d1 F w pl own S I G) (hK : 1024 ≤ K) (hRb : ∀ k, k < an_nO d0 d1 F pl → fp_b K (R k)) (hR : ∀ k, k < an_nO d0 d1 F pl → G 22 (row * 4 + k) = R k) (hla : la ≤ (d0 + d1) * F) (hrow : row ≤ la) (hdep : dep ≤ la) (hKn : K + 8 + 60 * (n + 1) ≤ 1990) (hn : ((d0 + d1) * F) + 1 ≤ la + (n + 1)) (x1 x3 x4 : Int32) (hx1 : x1 = nI la - 1) (hx3 : x3 = nI row) (hx4 : x4 = nI dep) : gz_Ct l D ad cy lx_lay yX0_otherValue cX0_otherValue 7 (some .double) (2 * n + 4) [.ref (ad 19), .int x1, .int x3, .int x4] (I, G) (fun v M1 => ∃ I1 G1, v = some (.double (an_V (an_nO d0 d1 F pl) ((d0 + d1) * F) (an_t d0 d1 F w pl own) S (n + 1) false la R)) ∧ M1 = (I1, G1) ∧ an_fr I I1 ∧ an_gr (4 * (row + 1)) G G1) := by
  have hn4 := hA.1
  have hb8 := hA.2.1
  have hb2 := hA.2.2.1
  refine gz_met (by decide +kernel) hJ (Nat.le_of_ble_eq_true rfl) ?_
  intro p e s m args below meth c hC
  have hC0 : fp_b (K + 35 + 8 + 60 * n) ((fun a => an_cs ((an_t d0 d1 F w pl own) la) (an_R S R la 0) a (an_nO d0 d1 F pl)) 0) := fp_b_mono (an_cs_b (fp_b_mono fp_b_0 (show 1 ≤ K + 35 by omega)) (an_nO d0 d1 F pl) (an_R_b hA hK (by omega) hRb hla (Nat.zero_le _)) (by omega)) (by omega)
  have hhb : ∀ q, q ≤ ((d0 + d1) * F) + 1 → fp_b (K + 35 + 8 + 60 * n + 2 * q) (an_h (fun q => an_any (an_R S R la q) (an_nO d0 d1 F pl)) (fun a => an_cs ((an_t d0 d1 F w pl own) la) (an_R S R la 0) a (an_nO d0 d1 F pl)) (fun q => an_V (an_nO d0 d1 F pl) ((d0 + d1) * F) (an_t d0 d1 F w pl own) S n true q (an_R S R la q)) la q) := fun q hq => an_h_b (by omega) hC0 q (fun q2 hq2 _ _ => an_V_b hA n true q2 _ (K + 35) (by omega) (by omega) (by omega) (an_R_b hA hK (by omega) hRb hla (by omega))) (by omega)
  have lp : ∀ (n2 q : Nat) (J1 : Nat → Nat → Int32) (J2 : Nat → Nat → UInt64) (y : UInt64) (x6 : Int32) (hi : q + n2 = ((d0 + d1) * F) + 1) (hlq : la < q) (hx6 : x6 = nI q - 1) (hy : y = (an_h (fun q => an_any (an_R S R la q) (an_nO d0 d1 F pl)) (fun a => an_cs ((an_t d0 d1 F w pl own) la) (an_R S R la 0) a (an_nO d0 d1 F pl)) (fun q => an_V (an_nO d0 d1 F pl) ((d0 + d1) * F) (an_t d0 d1 F w pl own) S n true q (an_R S R la q)) la q)) (hf : an_fr I J1) (hg : an_gr (4 * (row + 1)) G J2), gz_W p l e (gz_rm (2 * n + 4)) s m args below meth c D ad cy lx_lay 7 (MQ below (gz_Q D ad cy lx_lay (fun v M1 => ∃ I1 G1, v = some (.double (an_V (an_nO d0 d1 F pl) ((d0 + d1) * F) (an_t d0 d1 F w pl own) S (n + 1) false la R)) ∧ M1 = (I1, G1) ∧ an_fr I I1 ∧ an_gr (4 * (row + 1)) G G1)) args s 0 0 (gz_A ad lx_lay)) (J1, J2) 41 [(0, .ref (ad 19)), (1, .int x1), (2, .int x3), (3, .int x4), (4, .double y), (6, .int x6)] [] := by
    intro n2
    induction n2 with
    | zero =>
      intro q J1 J2 y x6 hi hlq hx6 hy hf hg
      refine gz_iload hC dX0_otherValue_41 rfl ?_
      refine gz_aload_n hC dX0_otherValue_43 rfl ?_
      refine gz_getR (j := 0) hC dX0_otherValue_44 cf_X0 fl_X0_22 rfl rfl (by decide) ?_
      refine gz_getIN (j := 4) hC dX0_otherValue_47 cf_X6 fl_X0_34 rfl rfl (by decide) ?_
      rw [show J1 1 4 = nI ((d0 + d1) * F) from (an_w_fr hX hf hg).1.2.1]
      refine gz_icmp_ge hC 91 dX0_otherValue_50 (by decide) (fun c50 => ?_) (fun c50 => ?_)
      · refine gz_dload hC dX0_otherValue_91 rfl ?_
        exact gz_dret hC dX0_otherValue_93 ⟨J1, J2, by rw [hy, show q = ((d0 + d1) * F) + 1 by omega]; rfl, rfl, hf, hg⟩
      · exact absurd (nM_ge hx6 rfl (by omega) (by omega) (by omega)) c50
    | succ n2 lpi =>
      intro q J1 J2 y x6 hi hlq hx6 hy hf hg
      refine gz_iload hC dX0_otherValue_41 rfl ?_
      refine gz_aload_n hC dX0_otherValue_43 rfl ?_
      refine gz_getR (j := 0) hC dX0_otherValue_44 cf_X0 fl_X0_22 rfl rfl (by decide) ?_
      refine gz_getIN (j := 4) hC dX0_otherValue_47 cf_X6 fl_X0_34 rfl rfl (by decide) ?_
      rw [show J1 1 4 = nI ((d0 + d1) * F) from (an_w_fr hX hf hg).1.2.1]
      refine gz_icmp_ge hC 91 dX0_otherValue_50 (by decide) (fun c50 => ?_) (fun c50 => ?_)
      · exact absurd c50 (nM_nge hx6 rfl (by omega) (by omega) (by omega))
      · refine gz_aload_n hC dX0_otherValue_53 rfl ?_
        refine gz_iload_n hC dX0_otherValue_54 rfl ?_
        refine gz_iload hC dX0_otherValue_55 rfl ?_
        refine gz_iload_n hC dX0_otherValue_57 rfl ?_
        refine gz_callV3 hC dX0_otherValue_58 ml_X0_71 rfl rfl (by omega) (by decide) (Nat.le_of_ble_eq_true rfl) (ct_X0_follow hJ _ _ d0 d1 F w hO pl own hp ho S hA (an_w_fr hX hf hg) R K la q row hK (by omega) hRb (fun k hk => (hg 22 _ (Or.inr (by omega))).trans (hR k hk)) hla (by omega) (by omega) _ _ _ hx1 hx6 hx3) (fun v58 M58 hp58 => ?_)
        obtain ⟨J4, rfl, rfl, hr2, hg2⟩ := hp58
        have hmf : tb_mf la q = true := by unfold tb_mf; rw [decide_eq_false (show ¬ q = 0 by omega), decide_eq_true hlq]; rfl
        refine gz_if_eq hC 85 dX0_otherValue_61 (by decide) (fun c61 => ?_) (fun c61 => ?_)
        · have hb := gz_b0 c61
          refine gz_iinc hC (1) dX0_otherValue_85 rfl (by decide) (by decide) ?_
          refine gz_goto hC 41 dX0_otherValue_88 (by decide) ?_
          refine gz_lw [(0, .ref (ad 19)), (1, .int x1), (2, .int x3), (3, .int x4), (4, .double y), (6, .int (x6 + 1))] ⟨rfl, rfl, rfl, rfl, rfl, rfl, trivial⟩ ?_
          exact lpi (q + 1) J1 J4 _ _ (by omega) (by omega) (nM_s hx6) (by rw [hy]; show _ = (cond (tb_mf la q && an_any (an_R S R la q) (an_nO d0 d1 F pl)) (if q = 0 then (fun a => an_cs ((an_t d0 d1 F w pl own) la) (an_R S R la 0) a (an_nO d0 d1 F pl)) (an_h (fun q => an_any (an_R S R la q) (an_nO d0 d1 F pl)) (fun a => an_cs ((an_t d0 d1 F w pl own) la) (an_R S R la 0) a (an_nO d0 d1 F pl)) (fun q => an_V (an_nO d0 d1 F pl) ((d0 + d1) * F) (an_t d0 d1 F w pl own) S n true q (an_R S R la q)) la q) else FP.dadd (an_h (fun q => an_any (an_R S R la q) (an_nO d0 d1 F pl)) (fun a => an_cs ((an_t d0 d1 F w pl own) la) (an_R S R la 0) a (an_nO d0 d1 F pl)) (fun q => an_V (an_nO d0 d1 F pl) ((d0 + d1) * F) (an_t d0 d1 F w pl own) S n true q (an_R S R la q)) la q) ((fun q => an_V (an_nO d0 d1 F pl) ((d0 + d1) * F) (an_t d0 d1 F w pl own) S n true q (an_R S R la q)) q)) (an_h (fun q => an_any (an_R S R la q) (an_nO d0 d1 F pl)) (fun a => an_cs ((an_t d0 d1 F w pl own) la) (an_R S R la 0) a (an_nO d0 d1 F pl)) (fun q => an_V (an_nO d0 d1 F pl) ((d0 + d1) * F) (an_t d0 d1 F w pl own) S n true q (an_R S R la q)) la q)); rw [hmf, hb]; rfl) hf (an_gr_t hg hg2 (Nat.le_refl _))
        · have hb := gz_b1 c61
          refine gz_dload hC dX0_otherValue_64 rfl ?_
          refine gz_aload_n hC dX0_otherValue_66 rfl ?_
          refine gz_iload hC dX0_otherValue_67 rfl ?_
          refine gz_aload_n hC dX0_otherValue_69 rfl ?_
          refine gz_getI (j := 3) hC dX0_otherValue_70 cf_X0 fl_X0_26 rfl rfl (by decide) ?_
          refine gz_iload_n hC dX0_otherValue_73 rfl ?_
          refine gz_iconst hC (1) dX0_otherValue_74 (by decide) ?_
          refine gz_iadd hC dX0_otherValue_75 ?_
          refine gz_iload_n hC dX0_otherValue_76 rfl ?_
          refine gz_iconst hC (1) dX0_otherValue_77 (by decide) ?_
          refine gz_iadd hC dX0_otherValue_78 ?_
          refine gz_callV4 hC dX0_otherValue_79 ml_X0_60 rfl rfl (by omega) (by decide) (Nat.le_of_ble_eq_true rfl) (ihV _ _ pl (an_R S R la q) (K + 35) q (row + 1) (dep + 1) (an_w_fr (an_w_fr hX hf hg) an_fr_0 hg2) (by omega) (an_R_b hA hK (by omega) hRb hla (by omega)) hr2 (by omega) (by omega) (by omega) (by omega) (by omega) hp _ _ _ _ hx6 (an_w_fr hX hf hg).2.1 (by rw [hx3]; exact nI_1 row) (by rw [hx4]; exact nI_1 dep)) (fun v79 M79 hp79 => ?_)
          obtain ⟨J5, J6, rfl, rfl, hf3, hg3, _⟩ := hp79
          rw [decide_eq_true rfl]
          have hterm : fp_b (K + 35 + 8 + 60 * n) (an_V (an_nO d0 d1 F pl) ((d0 + d1) * F) (an_t d0 d1 F w pl own) S n true q (an_R S R la q)) := an_V_b hA n true q _ (K + 35) (by omega) (by omega) (by omega) (an_R_b hA hK (by omega) hRb hla (by omega))
          have hacc := hhb q (by omega)
          rw [← hy] at hacc
          refine gz_dadd hC dX0_otherValue_82 (fp_b_n64 (fp_b_add hacc (fp_b_mono hterm (by omega)) (by omega)) (by omega)) ?_
          refine gz_dstore hC dX0_otherValue_83 (by decide) ?_
          refine gz_iinc hC (1) dX0_otherValue_85 rfl (by decide) (by decide) ?_
          refine gz_goto hC 41 dX0_otherValue_88 (by decide) ?_
          refine gz_lw [(0, .ref (ad 19)), (1, .int x1), (2, .int x3), (3, .int x4), (4, .double _), (6, .int (x6 + 1))] ⟨rfl, rfl, rfl, rfl, rfl, rfl, trivial⟩ ?_
          exact lpi (q + 1) J5 J6 _ _ (by omega) (by omega) (nM_s hx6) (by rw [hy]; show _ = (cond (tb_mf la q && an_any (an_R S R la q) (an_nO d0 d1 F pl)) (if q = 0 then (fun a => an_cs ((an_t d0 d1 F w pl own) la) (an_R S R la 0) a (an_nO d0 d1 F pl)) (an_h (fun q => an_any (an_R S R la q) (an_nO d0 d1 F pl)) (fun a => an_cs ((an_t d0 d1 F w pl own) la) (an_R S R la 0) a (an_nO d0 d1 F pl)) (fun q => an_V (an_nO d0 d1 F pl) ((d0 + d1) * F) (an_t d0 d1 F w pl own) S n true q (an_R S R la q)) la q) else FP.dadd (an_h (fun q => an_any (an_R S R la q) (an_nO d0 d1 F pl)) (fun a => an_cs ((an_t d0 d1 F w pl own) la) (an_R S R la 0) a (an_nO d0 d1 F pl)) (fun q => an_V (an_nO d0 d1 F pl) ((d0 + d1) * F) (an_t d0 d1 F w pl own) S n true q (an_R S R la q)) la q) ((fun q => an_V (an_nO d0 d1 F pl) ((d0 + d1) * F) (an_t d0 d1 F w pl own) S n true q (an_R S R la q)) q)) (an_h (fun q => an_any (an_R S R la q) (an_nO d0 d1 F pl)) (fun a => an_cs ((an_t d0 d1 F w pl own) la) (an_R S R la 0) a (an_nO d0 d1 F pl)) (fun q => an_V (an_nO d0 d1 F pl) ((d0 + d1) * F) (an_t d0 d1 F w pl own) S n true q (an_R S R la q)) la q)); rw [hmf, hb]; show _ = (if q = 0 then _ else _); rw [if_neg (show ¬ q = 0 by omega)]) (an_fr_t hf hf3) (an_gr_t (an_gr_t hg hg2 (Nat.le_refl _)) hg3 (by omega))
  have rest36 : ∀ (J2 : Nat → Nat → UInt64) (y : UInt64) (hy : y = (an_h (fun q => an_any (an_R S R la q) (an_nO d0 d1 F pl)) (fun a => an_cs ((an_t d0 d1 F w pl own) la) (an_R S R la 0) a (an_nO d0 d1 F pl)) (fun q => an_V (an_nO d0 d1 F pl) ((d0 + d1) * F) (an_t d0 d1 F w pl own) S n true q (an_R S R la q)) la 1)) (hg : an_gr (4 * (row + 1)) G J2), gz_W p l e (gz_rm (2 * n + 4)) s m args below meth c D ad cy lx_lay 7 (MQ below (gz_Q D ad cy lx_lay (fun v M1 => ∃ I1 G1, v = some (.double (an_V (an_nO d0 d1 F pl) ((d0 + d1) * F) (an_t d0 d1 F w pl own) S (n + 1) false la R)) ∧ M1 = (I1, G1) ∧ an_fr I I1 ∧ an_gr (4 * (row + 1)) G G1)) args s 0 0 (gz_A ad lx_lay)) (I, J2) 36 [(0, .ref (ad 19)), (1, .int x1), (2, .int x3), (3, .int x4), (4, .double y)] [] := by
    intro J2 y hy hg
    refine gz_iload_n hC dX0_otherValue_36 rfl ?_
    refine gz_iconst hC (1) dX0_otherValue_37 (by decide) ?_
    refine gz_iadd hC dX0_otherValue_38 ?_
    refine gz_istore hC dX0_otherValue_39 (by decide) ?_
    refine gz_lw [(0, .ref (ad 19)), (1, .int x1), (2, .int x3), (3, .int x4), (4, .double y), (6, .int (x1 + 1))] ⟨rfl, rfl, rfl, rfl, rfl, rfl, trivial⟩ ?_
    exact lp (((d0 + d1) * F) - la) (la + 1) I J2 y _ (by omega) (by omega) (nM_s hx1) (by rw [an_h_mid la (Nat.le_refl la)]; exact hy) an_fr_0 hg
  refine gz_dconst0 hC dX0_otherValue_0 ?_
  refine gz_dstore hC dX0_otherValue_1 (by decide) ?_
  refine gz_iload_n hC dX0_otherValue_3 rfl ?_
  refine gz_iconst hC (-1) dX0_otherValue_4 (by decide) ?_
  refine gz_icmp_eq hC 36 dX0_otherValue_5 (by decide) (fun c5 => ?_) (fun c5 => ?_)
  · have hl0 : la = 0 := by
      have q := nM_to hx1
      rw [c5] at q
      exact ((nI_eq (a := 0) (b := la) (by omega) (by omega)).mp q).symm
    refine gz_lw [(0, .ref (ad 19)), (1, .int x1), (2, .int x3), (3, .int x4), (4, .double 0)] ⟨rfl, rfl, rfl, rfl, rfl, trivial⟩ ?_
    exact rest36 G 0 (by show _ = (cond (tb_mf la 0 && an_any (an_R S R la 0) (an_nO d0 d1 F pl)) ((fun a => an_cs ((an_t d0 d1 F w pl own) la) (an_R S R la 0) a (an_nO d0 d1 F pl)) 0) 0); rw [show tb_mf la 0 = false by rw [hl0]; rfl]; rfl) an_gr_0
  · have hl0 : ¬ la = 0 := fun q => c5 (by rw [hx1, q]; rfl)
    have hmf : tb_mf la 0 = true := by unfold tb_mf; rw [decide_eq_true rfl, decide_eq_false hl0]; rfl
    refine gz_aload_n hC dX0_otherValue_8 rfl ?_
    refine gz_iload_n hC dX0_otherValue_9 rfl ?_
    refine gz_iconst hC (-1) dX0_otherValue_10 (by decide) ?_
    refine gz_iload_n hC dX0_otherValue_11 rfl ?_
    refine gz_callV3 hC dX0_otherValue_12 ml_X0_71 rfl rfl (by omega) (by decide) (Nat.le_of_ble_eq_true rfl) (ct_X0_follow hJ _ _ d0 d1 F w hO pl own hp ho S hA hX R K la 0 row hK (by omega) hRb hR hla (Nat.zero_le _) (by omega) _ _ _ hx1 nM_0 hx3) (fun v12 M12 hp12 => ?_)
    obtain ⟨J4, rfl, rfl, hr2, hg2⟩ := hp12
    refine gz_if_eq hC 36 dX0_otherValue_15 (by decide) (fun c15 => ?_) (fun c15 => ?_)
    · have hb := gz_b0 c15
      refine gz_lw [(0, .ref (ad 19)), (1, .int x1), (2, .int x3), (3, .int x4), (4, .double 0)] ⟨rfl, rfl, rfl, rfl, rfl, trivial⟩ ?_
      exact rest36 J4 0 (by show _ = (cond (tb_mf la 0 && an_any (an_R S R la 0) (an_nO d0 d1 F pl)) ((fun a => an_cs ((an_t d0 d1 F w pl own) la) (an_R S R la 0) a (an_nO d0 d1 F pl)) 0) 0); rw [hmf, hb]; rfl) hg2
    · have hb := gz_b1 c15
      refine gz_aload_n hC dX0_otherValue_18 rfl ?_
      refine gz_dload hC dX0_otherValue_19 rfl ?_
      refine gz_iconst hC (1) dX0_otherValue_21 (by decide) ?_
      refine gz_aload_n hC dX0_otherValue_22 rfl ?_
      refine gz_getI (j := 3) hC dX0_otherValue_23 cf_X0 fl_X0_26 rfl rfl (by decide) ?_
      refine gz_isub hC dX0_otherValue_26 ?_
      refine gz_iload_n hC dX0_otherValue_27 rfl ?_
      refine gz_iload_n hC dX0_otherValue_28 rfl ?_
      refine gz_iconst hC (1) dX0_otherValue_29 (by decide) ?_
      refine gz_iadd hC dX0_otherValue_30 ?_
      rw [show (1 : Int32) - I 19 3 = nI (1 - pl) by rw [hX.2.1, show (1 : Int32) = nI 1 from rfl, pk_sub (by omega)]]
      refine gz_callV4 hC dX0_otherValue_31 ml_X0_89 rfl rfl (by omega) (by decide) (Nat.le_of_ble_eq_true rfl) (ct_X0_addCallWins hJ _ _ d0 d1 F w hO pl own hp ho S hA (an_w_fr hX an_fr_0 hg2) (an_R S R la 0) (K + 35) la (row + 1) (1 - pl) 0 (by omega) (by omega) (fp_b_mono fp_b_0 (by omega)) (an_R_b hA hK (by omega) hRb hla (Nat.zero_le _)) hr2 (by omega) hla (by omega) (by omega) _ _ _ rfl hx1 (by rw [hx3]; exact nI_1 row)) (fun v31 M31 hp31 => ?_)
      obtain ⟨rfl, rfl⟩ := hp31
      refine gz_dstore hC dX0_otherValue_34 (by decide) ?_
      refine gz_lw [(0, .ref (ad 19)), (1, .int x1), (2, .int x3), (3, .int x4), (4, .double _)] ⟨rfl, rfl, rfl, rfl, rfl, trivial⟩ ?_
      exact rest36 J4 _ (by show _ = (cond (tb_mf la 0 && an_any (an_R S R la 0) (an_nO d0 d1 F pl)) ((fun a => an_cs ((an_t d0 d1 F w pl own) la) (an_R S R la 0) a (an_nO d0 d1 F pl)) 0) 0); rw [hmf, hb, decide_eq_false (show ¬ 1 - pl = pl by omega)]; show an_cs _ _ _ _ = an_cs _ _ _ _; congr 1; funext k; exact Bool.false_xor _) hg2
set_option maxHeartbeats 4000000 in
set_option maxRecDepth 100000 in
theorem ct_X0_value (hJ : gz_inj ad lx_lay) (d0 d1 F : Nat) (w : Bool) (hO : cf_ok d0 d1 F) (pl own : Nat) (hp : pl < 2) (ho : own < tb_n (tb_d d0 d1 pl) F) (S : Nat → Nat → Nat → UInt64) (hA : an_ok (an_nO d0 d1 F pl) ((d0 + d1) * F) S) : ∀ n, an_C l D ad cy d0 d1 F w pl own S n := by
  intro n
  induction n with
  | zero =>
    intro I G mv R K la row dep hX hK hRb hR hla hrow hdep hKn hn
    exact absurd hn (by omega)
  | succ n ih =>
    intro I G mv R K la row dep hX hK hRb hR hla hrow hdep hKn hn hmv x1 x2 x3 x4 hx1 hx2 hx3 hx4
    have hb8 := hA.2.1
    refine gz_met (by decide +kernel) hJ (Nat.le_of_ble_eq_true rfl) ?_
    intro p e s m args below meth c hC
    refine gz_iload hC dX0_value_0 rfl ?_
    refine gz_bipush hC (8) dX0_value_2 (by decide) ?_
    refine gz_icmp_le hC 9 dX0_value_4 (by decide) (fun c4 => ?_) (fun c4 => ?_)
    · refine gz_iload_n hC dX0_value_9 rfl ?_
      refine gz_aload_n hC dX0_value_10 rfl ?_
      refine gz_getI (j := 3) hC dX0_value_11 cf_X0 fl_X0_26 rfl rfl (by decide) ?_
      refine gz_icmp_ne hC 28 dX0_value_14 (by decide) (fun c14 => ?_) (fun c14 => ?_)
      · have hm : ¬ mv = pl := fun q => c14 (by rw [hx2, hX.2.1, q])
        refine gz_aload_n hC dX0_value_28 rfl ?_
        refine gz_iload_n hC dX0_value_29 rfl ?_
        refine gz_iload_n hC dX0_value_30 rfl ?_
        refine gz_iload hC dX0_value_31 rfl ?_
        refine gz_callV3 hC dX0_value_33 ml_X0_86 rfl rfl (by omega) (by decide) (Nat.le_of_ble_eq_true rfl) (ct_X0_otherValue hJ d0 d1 F w hO pl own hp ho S hA n ih I G R K la row dep hX hK hRb hR hla hrow hdep hKn hn _ _ _ hx1 hx3 hx4) (fun v33 M33 hp33 => ?_)
        obtain ⟨J1, J2, rfl, rfl, hf, hg⟩ := hp33
        exact gz_dret hC dX0_value_36 (by first | exact ⟨J1, J2, by rw [decide_eq_true hm], rfl, hf, hg, fun _ _ => h5⟩ | exact ⟨J1, J2, by rw [decide_eq_false hm], rfl, hf, hg, fun q _ => absurd q hm⟩)
      · have hm : mv = pl := (nI_eq (by omega) (by omega)).mp (by rw [← hx2, c14]; exact hX.2.1)
        refine gz_aload_n hC dX0_value_17 rfl ?_
        refine gz_iload_n hC dX0_value_18 rfl ?_
        refine gz_iload_n hC dX0_value_19 rfl ?_
        refine gz_iload hC dX0_value_20 rfl ?_
        refine gz_callV3 hC dX0_value_22 ml_X0_82 rfl rfl (by omega) (by decide) (Nat.le_of_ble_eq_true rfl) (ct_X0_ownValue hJ d0 d1 F w hO pl own hp ho S hA n ih I G R K la row dep hX hK hRb hR hla hrow hdep hKn hn _ _ _ hx1 hx3 hx4) (fun v22 M22 hp22 => ?_)
        obtain ⟨J1, J2, rfl, rfl, hf, hg, h5⟩ := hp22
        refine gz_goto hC 36 dX0_value_25 (by decide) ?_
        exact gz_dret hC dX0_value_36 (by first | exact ⟨J1, J2, by rw [decide_eq_true hm], rfl, hf, hg, fun _ _ => h5⟩ | exact ⟨J1, J2, by rw [decide_eq_false hm], rfl, hf, hg, fun q _ => absurd q hm⟩)
    · exact absurd (gz_ile hx4 (show (8 : Int32) = nI 8 from rfl) (by omega) (by decide)) c4
end CT
