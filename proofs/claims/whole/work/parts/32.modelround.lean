/-! the model: a round -/
def md_f (d F : Nat) (cf : Nat → Nat) : Nat → Int32
  | 0 => -1
  | n + 1 => cond (fd_like d F n cf 4) (nI n) (md_f d F cf n)
def md_r (a b k : Nat) : Nat → Nat := fun i => if i = 0 then a else if i = 1 then b else k
def md_ok (d F : Nat) : Prop := ∀ a, a < F → ∀ b, b < F → ∀ k, k < F → md_f d F (tb_cnt (md_r a b k) d) (tb_n d F) = nI (fd_s d F (tb_cnt (md_r a b k) d) (tb_n d F) 0)
theorem md_all {d F : Nat} (h : tb_ok d F) : md_ok d F := by
  unfold md_ok
  rcases h with ⟨rfl, rfl⟩ | ⟨rfl, rfl⟩ | ⟨rfl, rfl⟩ | ⟨rfl, rfl⟩ | ⟨rfl, rfl⟩ <;> decide +kernel
theorem tb_cnt_cg {r r2 : Nat → Nat} : ∀ n, (∀ i, i < n → r i = r2 i) → tb_cnt r n = tb_cnt r2 n
  | 0, _ => funext (fun _ => rfl)
  | n + 1, h => funext (fun f => by
    show tb_cnt r n f + (if f = r n then 1 else 0) = tb_cnt r2 n f + (if f = r2 n then 1 else 0)
    rw [tb_cnt_cg n (fun i hi => h i (by omega)), h n (by omega)])
theorem md_eq {d F : Nat} (hT : tb_ok d F) {r : Nat → Nat} (hr : ∀ i, r i < F) : md_f d F (tb_cnt r d) (tb_n d F) = nI (fd_s d F (tb_cnt r d) (tb_n d F) 0) := by
  have h3 := (tb_facts hT).2.2.2.2.2.1
  have e : tb_cnt r d = tb_cnt (md_r (r 0) (r 1) (r 2)) d := tb_cnt_cg d (fun i hi => by
    rcases (show i = 0 ∨ i = 1 ∨ i = 2 by omega) with q | q | q <;> subst q <;> rfl)
  rw [e]
  exact md_all hT _ (hr 0) _ (hr 1) _ (hr 2)
/-- the round in the model -/
def xm_g (th : Bool) (g : Nat → Int32) (I : Nat → Nat → Int32) : Prop := I 0 8 = gz_b th ∧ (th = true → I 5 0 = g 0 ∧ I 5 1 = g 1 ∧ I 0 10 = g 2 ∧ I 0 11 = g 3 ∧ I 0 12 = g 4 ∧ I 0 13 = g 5) ∧ I 0 14 = g 6 ∧ I 0 15 = g 7
theorem xm_tab_up {d0 d1 F : Nat} {w : Bool} {I : Nat → Nat → Int32} (h : xm_tab d0 d1 F w I) {j : Nat} {v : Int32} (hj : 4 ≤ j) : xm_tab d0 d1 F w (gz_up I 0 j v) := xm_tab_fr h (fun q hq => gz_up_oth (by omega)) (gz_up_ne (by decide)) (gz_up_ne (by decide)) (gz_up_ne (by decide))
theorem xm_tab_up5 {d0 d1 F : Nat} {w : Bool} {I : Nat → Nat → Int32} (h : xm_tab d0 d1 F w I) {j : Nat} {v : Int32} : xm_tab d0 d1 F w (gz_up I 5 j v) := xm_tab_fr h (fun q hq => gz_up_at (by decide)) (gz_up_ne (by decide)) (gz_up_ne (by decide)) (gz_up_ne (by decide))
section CT
variable {l : Launch} {D : va_G} {ad : Nat → Nat} {cy : Nat → ClassId}
set_option maxHeartbeats 4000000 in
set_option maxRecDepth 100000 in
theorem ct_X8_drawn (hJ : gz_inj ad lm_lay) (I : Nat → Nat → Int32) (G : Nat → Nat → UInt64) (d0 d1 F : Nat) (w : Bool) (hO : cf_ok d0 d1 F) (hX : xm_tab d0 d1 F w I) (pl d : Nat) (hp : pl < 2) (hd : d = tb_d d0 d1 pl) (hT : tb_ok d F) (x0 : Int32) (h24 : I 0 24 = x0) (x1 : Int32) (hx1 : x1 = nI pl) : gz_Ct l D ad cy lm_lay yX8_drawn cX8_drawn 7 (some .int) 1 [.ref (ad 0), .int x1] (I, G) (fun v M1 => ∃ I1, v = some (.int (nI (dr_h d F x0))) ∧ M1 = (I1, G) ∧ I1 0 24 = dr_it d x0 ∧ ∀ o j, o ≠ 0 ∨ j ≠ 24 → o ≠ 14 → I1 o j = I o j) := by
  have hXp : xm_h pl d F I := by rw [hd]; exact xm_hP hX hp
  obtain ⟨T1, T2, T3, T4, T5, hd3, hF4, hd1, hF2⟩ := tb_facts hT
  have hF := hX.1.2.2.1
  refine gz_met (by decide +kernel) hJ (Nat.le_of_ble_eq_true rfl) ?_
  intro p e s m args below meth c hC
  refine gz_aload_n hC dX8_drawn_0 rfl ?_
  refine gz_iload_n hC dX8_drawn_1 rfl ?_
  refine gz_callV1 hC dX8_drawn_2 ml_X8_67 rfl rfl (by decide) (by decide) (Nat.le_of_ble_eq_true rfl) (ct_X8_dice hJ _ _ d0 d1 F w hX.1 pl hp _ hx1) (fun v2 M2 hp2 => ?_)
  obtain ⟨rfl, rfl⟩ := hp2
  rw [← hd]
  obtain ⟨x2, hx2⟩ : ∃ z, z = nI d := ⟨_, rfl⟩
  rw [← hx2]
  refine gz_istore_n hC dX8_drawn_5 (by decide) ?_
  refine gz_iconst hC (0) dX8_drawn_6 (by decide) ?_
  refine gz_istore_n hC dX8_drawn_7 (by decide) ?_
  subst h24
  obtain ⟨x0, hx0e⟩ : ∃ z, z = I 0 24 := ⟨_, rfl⟩
  rw [← hx0e]
  have lpz : ∀ (nz i : Nat) (J : Nat → Nat → Int32) (x3 : Int32) (hi : i + nz = 4) (hx3 : x3 = nI i) (h0 : ∀ f, f < i → J 14 f = 0) (hf : ∀ o j, o ≠ 14 → J o j = I o j), gz_W p l e (gz_rm 1) s m args below meth c D ad cy lm_lay 7 (MQ below (gz_Q D ad cy lm_lay (fun v M1 => ∃ I1, v = some (.int (nI (dr_h d F x0))) ∧ M1 = (I1, G) ∧ I1 0 24 = dr_it d x0 ∧ ∀ o j, o ≠ 0 ∨ j ≠ 24 → o ≠ 14 → I1 o j = I o j)) args s 0 0 (gz_A ad lm_lay)) (J, G) 8 [(0, .ref (ad 0)), (1, .int x1), (2, .int x2), (3, .int x3)] [] := by
    intro nz
    induction nz with
    | zero =>
      intro i J x3 hi hx3 h0 hf
      refine gz_iload_n hC dX8_drawn_8 rfl ?_
      refine gz_iconst hC (4) dX8_drawn_9 (by decide) ?_
      refine gz_icmp_ge hC 26 dX8_drawn_10 (by decide) (fun c10 => ?_) (fun c10 => ?_)
      · refine gz_iconst hC (0) dX8_drawn_26 (by decide) ?_
        refine gz_istore_n hC dX8_drawn_27 (by decide) ?_
        have lpd : ∀ (n i : Nat) (J : Nat → Nat → Int32) (x3 : Int32) (hi : i + n = d) (hx3 : x3 = nI i) (h24 : J 0 24 = dr_it i x0) (h14 : ∀ f, f < 4 → J 14 f = nI (tb_cnt (dr_r F x0) i f)) (hf : ∀ o j, o ≠ 0 ∨ j ≠ 24 → o ≠ 14 → J o j = I o j), gz_W p l e (gz_rm 1) s m args below meth c D ad cy lm_lay 7 (MQ below (gz_Q D ad cy lm_lay (fun v M1 => ∃ I1, v = some (.int (nI (dr_h d F x0))) ∧ M1 = (I1, G) ∧ I1 0 24 = dr_it d x0 ∧ ∀ o j, o ≠ 0 ∨ j ≠ 24 → o ≠ 14 → I1 o j = I o j)) args s 0 0 (gz_A ad lm_lay)) (J, G) 28 [(0, .ref (ad 0)), (1, .int x1), (2, .int x2), (3, .int x3)] [] := by
          intro n
          induction n with
          | zero =>
            intro i J x3 hi hx3 h24 h14 hf
            refine gz_iload_n hC dX8_drawn_28 rfl ?_
            refine gz_iload_n hC dX8_drawn_29 rfl ?_
            refine gz_icmp_ge hC 78 dX8_drawn_30 (by decide) (fun c30 => ?_) (fun c30 => ?_)
            · refine gz_iconst hC (-1) dX8_drawn_78 (by decide) ?_
              refine gz_istore_n hC dX8_drawn_79 (by decide) ?_
              refine gz_iconst hC (0) dX8_drawn_80 (by decide) ?_
              refine gz_istore hC dX8_drawn_81 (by decide) ?_
              rw [show i = d by omega] at h24 h14
              have hXj : xm_h pl d F J := xm_h_fr hXp hT (fun o j h => hf o j (by omega) (by omega))
              have lph : ∀ (n1 k : Nat) (x3 x4 : Int32) (hi1 : k + n1 = tb_n d F) (hx4 : x4 = nI k) (hx3 : x3 = md_f d F (tb_cnt (dr_r F x0) d) k), gz_W p l e (gz_rm 1) s m args below meth c D ad cy lm_lay 7 (MQ below (gz_Q D ad cy lm_lay (fun v M1 => ∃ I1, v = some (.int (nI (dr_h d F x0))) ∧ M1 = (I1, G) ∧ I1 0 24 = dr_it d x0 ∧ ∀ o j, o ≠ 0 ∨ j ≠ 24 → o ≠ 14 → I1 o j = I o j)) args s 0 0 (gz_A ad lm_lay)) (J, G) 83 [(0, .ref (ad 0)), (1, .int x1), (2, .int x2), (3, .int x3), (4, .int x4)] [] := by
                intro n1
                induction n1 with
                | zero =>
                  intro k x3 x4 hi1 hx4 hx3
                  refine gz_iload hC dX8_drawn_83 rfl ?_
                  refine gz_aload_n hC dX8_drawn_85 rfl ?_
                  refine gz_getR (j := 5) hC dX8_drawn_86 cf_X8 fl_X8_23 rfl rfl (by decide) ?_
                  refine gz_iload_n hC dX8_drawn_89 rfl ?_
                  refine gz_iald hC dX8_drawn_90 rfl (by rw [hx1]; exact vp_in_nI (by omega) (by decide)) ?_
                  rw [show x1.toNatClampNeg = pl by rw [hx1, nI_clamp (by omega)], hXj.1]
                  refine gz_icmp_ge hC 169 dX8_drawn_91 (by decide) (fun c91 => ?_) (fun c91 => ?_)
                  · refine gz_iload_n hC dX8_drawn_169 rfl ?_
                    exact gz_iret hC dX8_drawn_170 ⟨J, by rw [hx3, show k = tb_n d F by omega, md_eq (r := dr_r F x0) hT (fun i => Nat.mod_lt _ (by omega))]; rfl, rfl, h24, hf⟩
                  · exact absurd (gz_ile rfl hx4 (by omega) (by omega)) c91
                | succ n1 ihh =>
                  intro k x3 x4 hi1 hx4 hx3
                  refine gz_iload hC dX8_drawn_83 rfl ?_
                  refine gz_aload_n hC dX8_drawn_85 rfl ?_
                  refine gz_getR (j := 5) hC dX8_drawn_86 cf_X8 fl_X8_23 rfl rfl (by decide) ?_
                  refine gz_iload_n hC dX8_drawn_89 rfl ?_
                  refine gz_iald hC dX8_drawn_90 rfl (by rw [hx1]; exact vp_in_nI (by omega) (by decide)) ?_
                  rw [show x1.toNatClampNeg = pl by rw [hx1, nI_clamp (by omega)], hXj.1]
                  refine gz_icmp_ge hC 169 dX8_drawn_91 (by decide) (fun c91 => ?_) (fun c91 => ?_)
                  · exact absurd c91 (gz_inle rfl hx4 (by omega) (by omega))
                  · refine gz_iconst hC (1) dX8_drawn_94 (by decide) ?_
                    refine gz_istore hC dX8_drawn_95 (by decide) ?_
                    refine gz_iconst hC (0) dX8_drawn_97 (by decide) ?_
                    refine gz_istore hC dX8_drawn_98 (by decide) ?_
                    have lpf : ∀ (n2 f : Nat) (x5 x6 : Int32) (hi2 : f + n2 = 4) (hx6 : x6 = nI f) (hx5 : x5 = gz_b (fd_like d F k (tb_cnt (dr_r F x0) d) f)), gz_W p l e (gz_rm 1) s m args below meth c D ad cy lm_lay 7 (MQ below (gz_Q D ad cy lm_lay (fun v M1 => ∃ I1, v = some (.int (nI (dr_h d F x0))) ∧ M1 = (I1, G) ∧ I1 0 24 = dr_it d x0 ∧ ∀ o j, o ≠ 0 ∨ j ≠ 24 → o ≠ 14 → I1 o j = I o j)) args s 0 0 (gz_A ad lm_lay)) (J, G) 100 [(0, .ref (ad 0)), (1, .int x1), (2, .int x2), (3, .int x3), (4, .int x4), (5, .int x5), (6, .int x6)] [] := by
                      intro n2
                      induction n2 with
                      | zero =>
                        intro f x5 x6 hi2 hx6 hx5
                        refine gz_iload hC dX8_drawn_100 rfl ?_
                        refine gz_iconst hC (4) dX8_drawn_102 (by decide) ?_
                        refine gz_icmp_ge hC 151 dX8_drawn_103 (by decide) (fun c103 => ?_) (fun c103 => ?_)
                        · refine gz_iload hC dX8_drawn_151 rfl ?_
                          rw [hx5, show f = 4 by omega]
                          refine gz_if_eq hC 161 dX8_drawn_153 (by decide) (fun c153 => ?_) (fun c153 => ?_)
                          · have hb := gz_b0 c153
                            refine gz_iload_n hC dX8_drawn_161 rfl ?_
                            refine gz_istore_n hC dX8_drawn_162 (by decide) ?_
                            refine gz_iinc hC (1) dX8_drawn_163 rfl (by decide) (by decide) ?_
                            refine gz_goto hC 83 dX8_drawn_166 (by decide) ?_
                            refine gz_lw [(0, .ref (ad 0)), (1, .int x1), (2, .int x2), (3, .int x3), (4, .int (x4 + 1))] ⟨rfl, rfl, rfl, rfl, rfl, trivial⟩ ?_
                            exact ihh (k + 1) _ _ (by omega) (gz_i1 hx4) (by rw [hx3]; show _ = cond (fd_like d F k (tb_cnt (dr_r F x0) d) 4) _ _; rw [hb]; rfl)
                          · have hb := gz_b1 c153
                            refine gz_iload hC dX8_drawn_156 rfl ?_
                            refine gz_goto hC 162 dX8_drawn_158 (by decide) ?_
                            refine gz_istore_n hC dX8_drawn_162 (by decide) ?_
                            refine gz_iinc hC (1) dX8_drawn_163 rfl (by decide) (by decide) ?_
                            refine gz_goto hC 83 dX8_drawn_166 (by decide) ?_
                            refine gz_lw [(0, .ref (ad 0)), (1, .int x1), (2, .int x2), (3, .int x4), (4, .int (x4 + 1))] ⟨rfl, rfl, rfl, rfl, rfl, trivial⟩ ?_
                            exact ihh (k + 1) _ _ (by omega) (gz_i1 hx4) (by rw [hx4]; show _ = cond (fd_like d F k (tb_cnt (dr_r F x0) d) 4) _ _; rw [hb]; rfl)
                        · exact absurd (gz_ile (show (4 : Int32) = nI 4 from rfl) hx6 (by omega) (by omega)) c103
                      | succ n2 ihf =>
                        intro f x5 x6 hi2 hx6 hx5
                        refine gz_iload hC dX8_drawn_100 rfl ?_
                        refine gz_iconst hC (4) dX8_drawn_102 (by decide) ?_
                        refine gz_icmp_ge hC 151 dX8_drawn_103 (by decide) (fun c103 => ?_) (fun c103 => ?_)
                        · exact absurd c103 (gz_inle (show (4 : Int32) = nI 4 from rfl) hx6 (by omega) (by omega))
                        · refine gz_iload hC dX8_drawn_106 rfl ?_
                          refine gz_if_eq hC 142 dX8_drawn_108 (by decide) (fun c108 => ?_) (fun c108 => ?_)
                          · have hb := gz_b0 (hx5.symm.trans c108)
                            refine gz_iconst hC (0) dX8_drawn_142 (by decide) ?_
                            refine gz_istore hC dX8_drawn_143 (by decide) ?_
                            refine gz_iinc hC (1) dX8_drawn_145 rfl (by decide) (by decide) ?_
                            refine gz_goto hC 100 dX8_drawn_148 (by decide) ?_
                            refine gz_lw [(0, .ref (ad 0)), (1, .int x1), (2, .int x2), (3, .int x3), (4, .int x4), (5, .int 0), (6, .int (x6 + 1))] ⟨rfl, rfl, rfl, rfl, rfl, rfl, rfl, trivial⟩ ?_
                            exact ihf (f + 1) _ _ (by omega) (gz_i1 hx6) (by show _ = gz_b (fd_like d F k (tb_cnt (dr_r F x0) d) f && decide _); rw [hb]; rfl)
                          · have hb := gz_b1 (fun z => c108 (hx5.trans z))
                            refine gz_aload_n hC dX8_drawn_111 rfl ?_
                            refine gz_getR (j := 4) hC dX8_drawn_112 cf_X8 fl_X8_19 rfl rfl (by decide) ?_
                            refine gz_bipush hC (16) dX8_drawn_115 (by decide) ?_
                            refine gz_iload_n hC dX8_drawn_117 rfl ?_
                            refine gz_imul hC dX8_drawn_118 ?_
                            refine gz_iconst hC (4) dX8_drawn_119 (by decide) ?_
                            refine gz_iload hC dX8_drawn_120 rfl ?_
                            refine gz_imul hC dX8_drawn_122 ?_
                            refine gz_iadd hC dX8_drawn_123 ?_
                            refine gz_iload hC dX8_drawn_124 rfl ?_
                            refine gz_iadd hC dX8_drawn_126 ?_
                            refine gz_iald hC dX8_drawn_127 rfl (by rw [hx1, hx4, hx6, gz_n16, gz_n4, pk_mul, pk_mul, nI_add, nI_add]; exact vp_in_nI (by omega) (by decide)) ?_
                            rw [show (16 * x1 + 4 * x4 + x6).toNatClampNeg = 16 * pl + 4 * k + f by rw [hx1, hx4, hx6, gz_n16, gz_n4, pk_mul, pk_mul, nI_add, nI_add, nI_clamp (by omega)], hXj.2.1 k (by omega) f (by omega)]
                            refine gz_aload_n hC dX8_drawn_128 rfl ?_
                            refine gz_getR (j := 25) hC dX8_drawn_129 cf_X8 fl_X8_61 rfl rfl (by decide) ?_
                            refine gz_iload hC dX8_drawn_132 rfl ?_
                            refine gz_iald hC dX8_drawn_134 rfl (by rw [hx6]; exact vp_in_nI (by omega) (by decide)) ?_
                            rw [show x6.toNatClampNeg = f by rw [hx6, nI_clamp (by omega)]]
                            rw [h14 f (by omega)]
                            have l1 := tb_cnt_le (tb_rw d F k) f d
                            have l2 := tb_cnt_le (dr_r F x0) f d
                            refine gz_icmp_ne hC 142 dX8_drawn_135 (by decide) (fun c135 => ?_) (fun c135 => ?_)
                            · have hq : decide (tb_cnt (tb_rw d F k) d f = (tb_cnt (dr_r F x0) d) f) = false := decide_eq_false (fun z => c135 (by rw [z]))
                              refine gz_iconst hC (0) dX8_drawn_142 (by decide) ?_
                              refine gz_istore hC dX8_drawn_143 (by decide) ?_
                              refine gz_iinc hC (1) dX8_drawn_145 rfl (by decide) (by decide) ?_
                              refine gz_goto hC 100 dX8_drawn_148 (by decide) ?_
                              refine gz_lw [(0, .ref (ad 0)), (1, .int x1), (2, .int x2), (3, .int x3), (4, .int x4), (5, .int 0), (6, .int (x6 + 1))] ⟨rfl, rfl, rfl, rfl, rfl, rfl, rfl, trivial⟩ ?_
                              exact ihf (f + 1) _ _ (by omega) (gz_i1 hx6) (by show _ = gz_b (fd_like d F k (tb_cnt (dr_r F x0) d) f && decide _); rw [hq, Bool.and_false]; rfl)
                            · have hq : decide (tb_cnt (tb_rw d F k) d f = (tb_cnt (dr_r F x0) d) f) = true := decide_eq_true ((nI_eq (by omega) (by omega)).mp c135)
                              refine gz_iconst hC (1) dX8_drawn_138 (by decide) ?_
                              refine gz_goto hC 143 dX8_drawn_139 (by decide) ?_
                              refine gz_istore hC dX8_drawn_143 (by decide) ?_
                              refine gz_iinc hC (1) dX8_drawn_145 rfl (by decide) (by decide) ?_
                              refine gz_goto hC 100 dX8_drawn_148 (by decide) ?_
                              refine gz_lw [(0, .ref (ad 0)), (1, .int x1), (2, .int x2), (3, .int x3), (4, .int x4), (5, .int 1), (6, .int (x6 + 1))] ⟨rfl, rfl, rfl, rfl, rfl, rfl, rfl, trivial⟩ ?_
                              exact ihf (f + 1) _ _ (by omega) (gz_i1 hx6) (by show _ = gz_b (fd_like d F k (tb_cnt (dr_r F x0) d) f && decide _); rw [hb, hq]; rfl)
                    refine gz_lw [(0, .ref (ad 0)), (1, .int x1), (2, .int x2), (3, .int x3), (4, .int x4), (5, .int 1), (6, .int 0)] ⟨rfl, rfl, rfl, rfl, rfl, rfl, rfl, trivial⟩ ?_
                    exact lpf 4 0 1 0 (by omega) rfl rfl
              refine gz_lw [(0, .ref (ad 0)), (1, .int x1), (2, .int x2), (3, .int (-1)), (4, .int 0)] ⟨rfl, rfl, rfl, rfl, rfl, trivial⟩ ?_
              exact lph (tb_n d F) 0 (-1) 0 (by omega) rfl rfl
            · exact absurd (gz_ile hx2 hx3 (by omega) (by omega)) c30
          | succ n ihd =>
            intro i J x3 hi hx3 h24 h14 hf
            refine gz_iload_n hC dX8_drawn_28 rfl ?_
            refine gz_iload_n hC dX8_drawn_29 rfl ?_
            refine gz_icmp_ge hC 78 dX8_drawn_30 (by decide) (fun c30 => ?_) (fun c30 => ?_)
            · exact absurd c30 (gz_inle hx2 hx3 (by omega) (by omega))
            · refine gz_aload_n hC dX8_drawn_33 rfl ?_
              refine gz_aload_n hC dX8_drawn_34 rfl ?_
              refine gz_getI (j := 24) hC dX8_drawn_35 cf_X8 fl_X8_176 rfl rfl (by decide) ?_
              refine gz_ldc hC dX8_drawn_38 kc_X8_179 ?_
              refine gz_imul hC dX8_drawn_40 ?_
              refine gz_sipush hC (12345) dX8_drawn_41 (by decide) ?_
              refine gz_iadd hC dX8_drawn_44 ?_
              refine gz_ldc hC dX8_drawn_45 kc_X8_180 ?_
              refine gz_iand hC dX8_drawn_47 ?_
              refine gz_put (j := 24) hC dX8_drawn_48 cf_X8 fl_X8_176 rfl rfl (by decide) rfl rfl rfl ?_
              have hv : (J 0 24 * 1103515245 + 12345 &&& 2147483647) = dr_it (i + 1) x0 := by rw [h24]; rfl
              rw [hv]
              obtain ⟨jj, hjj, hje⟩ := dr_nx_of (dr_it i x0)
              have hxe : dr_it (i + 1) x0 = nI jj := hje
              have hdl := Nat.div_le_self jj 65536
              have hF2 : J 0 2 = nI F := (hf 0 2 (Or.inr (by decide)) (by decide)).trans hF
              refine gz_aload_n hC dX8_drawn_51 rfl ?_
              refine gz_getR (j := 25) hC dX8_drawn_52 cf_X8 fl_X8_61 rfl rfl (by decide) ?_
              refine gz_aload_n hC dX8_drawn_55 rfl ?_
              refine gz_getI (j := 24) hC dX8_drawn_56 cf_X8 fl_X8_176 rfl rfl (by decide) ?_
              refine gz_ldc hC dX8_drawn_59 kc_X8_181 ?_
              rw [show gz_up J 0 24 (dr_it (i + 1) x0) 0 24 = dr_it (i + 1) x0 from gz_up_self]
              refine gz_idiv hC dX8_drawn_61 (by decide) ?_
              refine gz_aload_n hC dX8_drawn_62 rfl ?_
              refine gz_getI (j := 2) hC dX8_drawn_63 cf_X8 fl_X8_16 rfl rfl (by decide) ?_
              rw [show gz_up J 0 24 (dr_it (i + 1) x0) 0 2 = nI F from (gz_up_oth (by decide)).trans hF2, dr_div hjj hxe]
              have hcl9 : (dr_it (i + 1) x0).toNatClampNeg = jj := by rw [hxe, nI_clamp hjj]
              refine gz_irem hC dX8_drawn_66 (nI_ne0 (by omega) (by omega)) ?_
              rw [pk_rem (by omega) (by omega) (by omega), show nI ((dr_it (i + 1) x0).toNatClampNeg / 65536 % F) = nI (dr_r F x0 i) from rfl]
              have hpF : dr_r F x0 i < F := Nat.mod_lt _ (by omega)
              refine gz_dup2 hC dX8_drawn_67 rfl rfl ?_
              refine gz_iald hC dX8_drawn_68 rfl (vp_in_nI (by omega) (by decide)) ?_
              rw [nI_clamp (show dr_r F x0 i < 2 ^ 31 by omega), show gz_up J 0 24 (dr_it (i + 1) x0) 14 (dr_r F x0 i) = nI (tb_cnt (dr_r F x0) i (dr_r F x0 i)) from (gz_up_at (by decide)).trans (h14 _ (by omega))]
              refine gz_iconst hC (1) dX8_drawn_69 (by decide) ?_
              refine gz_iadd hC dX8_drawn_70 ?_
              refine gz_iast hC dX8_drawn_71 rfl (vp_in_nI (by omega) (by decide)) ?_
              rw [nI_clamp (show dr_r F x0 i < 2 ^ 31 by omega)]
              refine gz_iinc hC (1) dX8_drawn_72 rfl (by decide) (by decide) ?_
              refine gz_goto hC 28 dX8_drawn_75 (by decide) ?_
              refine gz_lw [(0, .ref (ad 0)), (1, .int x1), (2, .int x2), (3, .int (x3 + 1))] ⟨rfl, rfl, rfl, rfl, trivial⟩ ?_
              exact ihd (i + 1) _ _ (by omega) (gz_i1 hx3) ((gz_up_at (by decide)).trans gz_up_self) (fun f hf4 => by
                show _ = nI (tb_cnt (dr_r F x0) i f + (if f = dr_r F x0 i then 1 else 0))
                by_cases e : f = dr_r F x0 i
                · subst e; rw [gz_up_self, if_pos rfl]; exact nI_1 _
                · rw [gz_up_oth e, gz_up_at (by decide), if_neg e]; exact h14 f hf4) (fun o j h1 h2 => by rw [gz_up_at h2, gz_up2 (by omega)]; exact hf o j h1 h2)
        refine gz_lw [(0, .ref (ad 0)), (1, .int x1), (2, .int x2), (3, .int 0)] ⟨rfl, rfl, rfl, rfl, trivial⟩ ?_
        exact lpd d 0 J 0 (by omega) rfl ((hf 0 24 (by decide)).trans hx0e.symm) (fun f hf4 => h0 f (by omega)) (fun o j _ h2 => hf o j h2)
      · exact absurd (gz_ile (show (4 : Int32) = nI 4 from rfl) hx3 (by omega) (by omega)) c10
    | succ nz ihz =>
      intro i J x3 hi hx3 h0 hf
      refine gz_iload_n hC dX8_drawn_8 rfl ?_
      refine gz_iconst hC (4) dX8_drawn_9 (by decide) ?_
      refine gz_icmp_ge hC 26 dX8_drawn_10 (by decide) (fun c10 => ?_) (fun c10 => ?_)
      · exact absurd c10 (gz_inle (show (4 : Int32) = nI 4 from rfl) hx3 (by omega) (by omega))
      · refine gz_aload_n hC dX8_drawn_13 rfl ?_
        refine gz_getR (j := 25) hC dX8_drawn_14 cf_X8 fl_X8_61 rfl rfl (by decide) ?_
        refine gz_iload_n hC dX8_drawn_17 rfl ?_
        refine gz_iconst hC (0) dX8_drawn_18 (by decide) ?_
        refine gz_iast hC dX8_drawn_19 rfl (by rw [hx3]; exact vp_in_nI (by omega) (by decide)) ?_
        rw [show x3.toNatClampNeg = i by rw [hx3, nI_clamp (by omega)]]
        refine gz_iinc hC (1) dX8_drawn_20 rfl (by decide) (by decide) ?_
        refine gz_goto hC 8 dX8_drawn_23 (by decide) ?_
        refine gz_lw [(0, .ref (ad 0)), (1, .int x1), (2, .int x2), (3, .int (x3 + 1))] ⟨rfl, rfl, rfl, rfl, trivial⟩ ?_
        exact ihz (i + 1) _ _ (by omega) (gz_i1 hx3) (fun f hf4 => by by_cases e : f = i; (subst e; exact gz_up_self); exact (gz_up_oth e).trans (h0 f (by omega))) (fun o j h => (gz_up_at h).trans (hf o j h))
  refine gz_lw [(0, .ref (ad 0)), (1, .int x1), (2, .int x2), (3, .int 0)] ⟨rfl, rfl, rfl, rfl, trivial⟩ ?_
  exact lpz 4 0 I 0 (by omega) rfl (fun f h => absurd h (Nat.not_lt_zero f)) (fun _ _ _ => rfl)
  -- places not laid: [9, 10, 13, 14, 17, 18, 19, 20, 23, 26, 27, 28, 29, 30, 33, 34, 35, 38, 40, 41, 44, 45, 47, 48, 51, 52, 55, 56, 59, 61, 62, 63, 66, 67, 68, 69, 70, 71, 72, 75, 78, 79, 80, 81, 83, 85, 86, 89, 90, 91, 94, 95, 97, 98, 100, 102, 103, 106, 108, 111, 112, 115, 117, 118, 119, 120, 122, 123, 124, 126, 127, 128, 129, 132, 134, 135, 138, 139, 142, 143, 145, 148, 151, 153, 156, 158, 161, 162, 163, 166, 169, 170]
set_option maxHeartbeats 4000000 in
set_option maxRecDepth 100000 in
theorem ct_X8_round (hJ : gz_inj ad lm_lay) (I : Nat → Nat → Int32) (G : Nat → Nat → UInt64) (d0 d1 F : Nat) (w : Bool) (hO : cf_ok d0 d1 F) (hX : xm_tab d0 d1 F w I) (th : Bool) (g : Nat → Int32) (hg : xm_g th g I) (seed : Int32) : gz_Ct l D ad cy lm_lay yX8_round cX8_round 2 (some .int) 2 [.ref (ad 0), .int seed] (I, G) (fun v M1 => (seed < 0 ∧ v = some (.int (-2)) ∧ M1 = (I, G)) ∨ (¬ seed < 0 ∧ ∃ I1, v = some (.int (nI (dr_h d0 F seed))) ∧ M1 = (I1, G) ∧ xm_g true (sp_gr d0 d1 F seed g) I1 ∧ xm_tab d0 d1 F w I1 ∧ I1 4 = I 4)) := by
  refine gz_met (by decide +kernel) hJ (Nat.le_of_ble_eq_true rfl) ?_
  intro p e s m args below meth c hC
  refine gz_iload_n hC dX8_round_0 rfl ?_
  refine gz_if_ge hC 7 dX8_round_1 (by decide) (fun c1 => ?_) (fun c1 => ?_)
  · refine gz_aload_n hC dX8_round_7 rfl ?_
    refine gz_iload_n hC dX8_round_8 rfl ?_
    refine gz_put (j := 24) hC dX8_round_9 cf_X8 fl_X8_176 rfl rfl (by decide) rfl rfl rfl ?_
    refine gz_aload_n hC dX8_round_12 rfl ?_
    refine gz_getR (j := 9) hC dX8_round_13 cf_X8 fl_X8_32 rfl rfl (by decide) ?_
    refine gz_iconst hC (0) dX8_round_16 (by decide) ?_
    refine gz_aload_n hC dX8_round_17 rfl ?_
    refine gz_iconst hC (0) dX8_round_18 (by decide) ?_
    refine gz_callV1 hC dX8_round_19 ml_X8_182 rfl rfl (by decide) (by decide) (Nat.le_of_ble_eq_true rfl) (ct_X8_drawn hJ _ _ d0 d1 F w hO (xm_tab_up hX (by decide)) 0 d0 (by decide) rfl hO.1 seed gz_up_self _ rfl) (fun v19 M19 hp19 => ?_)
    obtain ⟨J1, rfl, rfl, k1, k2⟩ := hp19
    refine gz_iast hC dX8_round_22 rfl (show vp_in (nI 0) 2 from vp_in_nI (by decide) (by decide)) ?_
    rw [show (0 : Int32).toNatClampNeg = 0 from rfl]
    have f1 : ∀ o, o ≠ 0 → o ≠ 14 → J1 o = I o := fun o h1 h2 => funext (fun j => (k2 o j (Or.inl h1) h2).trans (gz_up_at h1))
    have f0 : ∀ j, j ≠ 24 → J1 0 j = I 0 j := fun j h => (k2 0 j (Or.inr h) (by decide)).trans (gz_up_oth h)
    have hX1 : xm_tab d0 d1 F w J1 := xm_tab_fr hX (fun j hj => f0 j (by omega)) (f1 1 (by decide) (by decide)) (f1 2 (by decide) (by decide)) (f1 3 (by decide) (by decide))
    refine gz_aload_n hC dX8_round_23 rfl ?_
    refine gz_getR (j := 9) hC dX8_round_24 cf_X8 fl_X8_32 rfl rfl (by decide) ?_
    refine gz_iconst hC (1) dX8_round_27 (by decide) ?_
    refine gz_aload_n hC dX8_round_28 rfl ?_
    refine gz_iconst hC (1) dX8_round_29 (by decide) ?_
    refine gz_callV1 hC dX8_round_30 ml_X8_182 rfl rfl (by decide) (by decide) (Nat.le_of_ble_eq_true rfl) (ct_X8_drawn hJ _ _ d0 d1 F w hO (xm_tab_up5 hX1) 1 d1 (by decide) rfl hO.2.1 (dr_it d0 seed) ((gz_up_at (by decide)).trans k1) _ rfl) (fun v30 M30 hp30 => ?_)
    obtain ⟨J2, rfl, rfl, k3, k4⟩ := hp30
    refine gz_iast hC dX8_round_33 rfl (show vp_in (nI 1) 2 from vp_in_nI (by decide) (by decide)) ?_
    rw [show (1 : Int32).toNatClampNeg = 1 from rfl]
    have f2 : ∀ o, o ≠ 0 → o ≠ 5 → o ≠ 14 → J2 o = J1 o := fun o h1 h3 h2 => funext (fun j => (k4 o j (Or.inl h1) h2).trans (gz_up_at h3))
    have f3 : ∀ j, j ≠ 24 → J2 0 j = J1 0 j := fun j h => (k4 0 j (Or.inr h) (by decide)).trans (gz_up_at (by decide))
    have hX2 : xm_tab d0 d1 F w J2 := xm_tab_fr hX1 (fun j hj => f3 j (by omega)) (f2 1 (by decide) (by decide) (by decide)) (f2 2 (by decide) (by decide) (by decide)) (f2 3 (by decide) (by decide) (by decide))
    have h50 : J2 5 0 = nI (dr_h d0 F seed) := (k4 5 0 (Or.inl (by decide)) (by decide)).trans gz_up_self
    refine gz_aload_n hC dX8_round_34 rfl ?_
    refine gz_iconst hC (1) dX8_round_35 (by decide) ?_
    refine gz_put (j := 8) hC dX8_round_36 cf_X8 fl_X8_78 rfl rfl (by decide) rfl rfl rfl ?_
    refine gz_aload_n hC dX8_round_39 rfl ?_
    refine gz_iconst hC (0) dX8_round_40 (by decide) ?_
    refine gz_put (j := 10) hC dX8_round_41 cf_X8 fl_X8_185 rfl rfl (by decide) rfl rfl rfl ?_
    refine gz_aload_n hC dX8_round_44 rfl ?_
    refine gz_iconst hC (-1) dX8_round_45 (by decide) ?_
    refine gz_put (j := 11) hC dX8_round_46 cf_X8 fl_X8_188 rfl rfl (by decide) rfl rfl rfl ?_
    refine gz_aload_n hC dX8_round_49 rfl ?_
    refine gz_iconst hC (0) dX8_round_50 (by decide) ?_
    refine gz_put (j := 12) hC dX8_round_51 cf_X8 fl_X8_191 rfl rfl (by decide) rfl rfl rfl ?_
    refine gz_aload_n hC dX8_round_54 rfl ?_
    refine gz_iconst hC (-1) dX8_round_55 (by decide) ?_
    refine gz_put (j := 13) hC dX8_round_56 cf_X8 fl_X8_194 rfl rfl (by decide) rfl rfl rfl ?_
    refine gz_aload_n hC dX8_round_59 rfl ?_
    refine gz_getR (j := 9) hC dX8_round_60 cf_X8 fl_X8_32 rfl rfl (by decide) ?_
    refine gz_iconst hC (0) dX8_round_63 (by decide) ?_
    refine gz_iald hC dX8_round_64 rfl (show vp_in (nI 0) 2 from vp_in_nI (by decide) (by decide)) ?_
    rw [show (0 : Int32).toNatClampNeg = 0 from rfl]
    exact gz_iret hC dX8_round_65 (Or.inr ⟨Int32.not_lt.mpr c1, _, by rw [gz_up_at (by decide), gz_up_at (by decide), gz_up_at (by decide), gz_up_at (by decide), gz_up_at (by decide), gz_up_oth (by decide), h50], rfl,
      ⟨by rw [gz_up_oth (by decide), gz_up_oth (by decide), gz_up_oth (by decide), gz_up_oth (by decide), gz_up_self]; rfl, fun _ => ⟨by rw [gz_up_at (by decide), gz_up_at (by decide), gz_up_at (by decide), gz_up_at (by decide), gz_up_at (by decide), gz_up_oth (by decide), h50]; rfl, by rw [gz_up_at (by decide), gz_up_at (by decide), gz_up_at (by decide), gz_up_at (by decide), gz_up_at (by decide), gz_up_self]; rfl, by rw [gz_up_oth (by decide), gz_up_oth (by decide), gz_up_oth (by decide), gz_up_self]; rfl, by rw [gz_up_oth (by decide), gz_up_oth (by decide), gz_up_self]; rfl, by rw [gz_up_oth (by decide), gz_up_self]; rfl, by rw [gz_up_self]; rfl⟩,
       by rw [gz_up_oth (by decide), gz_up_oth (by decide), gz_up_oth (by decide), gz_up_oth (by decide), gz_up_oth (by decide), gz_up_at (by decide), f3 14 (by decide), f0 14 (by decide)]; exact hg.2.2.1,
       by rw [gz_up_oth (by decide), gz_up_oth (by decide), gz_up_oth (by decide), gz_up_oth (by decide), gz_up_oth (by decide), gz_up_at (by decide), f3 15 (by decide), f0 15 (by decide)]; exact hg.2.2.2⟩,
      xm_tab_up (xm_tab_up (xm_tab_up (xm_tab_up (xm_tab_up (xm_tab_up5 hX2) (by decide)) (by decide)) (by decide)) (by decide)) (by decide),
      by rw [gz_up_ne (by decide), gz_up_ne (by decide), gz_up_ne (by decide), gz_up_ne (by decide), gz_up_ne (by decide), gz_up_ne (by decide), f2 4 (by decide) (by decide) (by decide), f1 4 (by decide) (by decide)]⟩)
  · refine gz_bipush hC (-2) dX8_round_4 (by decide) ?_
    exact gz_iret hC dX8_round_6 (Or.inl ⟨Int32.not_le.mp c1, rfl, rfl⟩)
set_option maxHeartbeats 4000000 in
set_option maxRecDepth 100000 in
theorem ct_X8_held (hJ : gz_inj ad lm_lay) (I : Nat → Nat → Int32) (G : Nat → Nat → UInt64) (th : Bool) (g : Nat → Int32) (hg : xm_g th g I) (x : Int32) : gz_Ct l D ad cy lm_lay yX8_held cX8_held 2 (some .int) 2 [.ref (ad 0), .int x] (I, G) (fun v M1 => v = some (.int (sp_held th g x)) ∧ M1 = (I, G)) := by
  refine gz_met (by decide +kernel) hJ (Nat.le_of_ble_eq_true rfl) ?_
  intro p e s m args below meth c hC
  refine gz_iload_n hC dX8_held_0 rfl ?_
  refine gz_callS1 hC dX8_held_1 ml_X8_93 (by decide) (by decide) (Nat.le_of_ble_eq_true rfl) (ct_X8_isPlayer hJ _ _ _) (fun v1 M1 hp1 => ?_)
  obtain ⟨rfl, rfl⟩ := hp1
  refine gz_if_ne hC 12 dX8_held_4 (by decide) (fun c4 => ?_) (fun c4 => ?_)
  · have q1 := gz_b1 c4
    obtain ⟨pl, hp, hx⟩ := gz_in_2 q1
    refine gz_aload_n hC dX8_held_12 rfl ?_
    refine gz_getI (j := 8) hC dX8_held_13 cf_X8 fl_X8_78 rfl rfl (by decide) ?_
    rw [hg.1]
    refine gz_if_eq hC 28 dX8_held_16 (by decide) (fun c16 => ?_) (fun c16 => ?_)
    · have q2 := gz_b0 c16
      refine gz_bipush hC (-3) dX8_held_28 (by decide) ?_
      exact gz_iret hC dX8_held_30 ⟨gz_v (by unfold sp_held; first | (rw [q1, q2]; rcases (show pl = 0 ∨ pl = 1 by omega) with e | e <;> subst e <;> rw [hx]; (show I 5 0 = if (0 : Int32) = 0 then g 0 else g 1; rw [if_pos rfl]; exact (hg.2.1 q2).1); (show I 5 1 = if (1 : Int32) = 0 then g 0 else g 1; rw [if_neg (by decide)]; exact (hg.2.1 q2).2.1)) | (rw [q1, q2]; rfl) | (rw [q1]; rfl)), rfl⟩
    · have q2 := gz_b1 c16
      refine gz_aload_n hC dX8_held_19 rfl ?_
      refine gz_getR (j := 9) hC dX8_held_20 cf_X8 fl_X8_32 rfl rfl (by decide) ?_
      refine gz_iload_n hC dX8_held_23 rfl ?_
      refine gz_iald hC dX8_held_24 rfl (by rw [hx]; exact vp_in_nI (by omega) (by decide)) ?_
      rw [show x.toNatClampNeg = pl by rw [hx, nI_clamp (by omega)]]
      refine gz_goto hC 30 dX8_held_25 (by decide) ?_
      exact gz_iret hC dX8_held_30 ⟨gz_v (by unfold sp_held; first | (rw [q1, q2]; rcases (show pl = 0 ∨ pl = 1 by omega) with e | e <;> subst e <;> rw [hx]; (show I 5 0 = if (0 : Int32) = 0 then g 0 else g 1; rw [if_pos rfl]; exact (hg.2.1 q2).1); (show I 5 1 = if (1 : Int32) = 0 then g 0 else g 1; rw [if_neg (by decide)]; exact (hg.2.1 q2).2.1)) | (rw [q1, q2]; rfl) | (rw [q1]; rfl)), rfl⟩
  · have q1 := gz_b0 c4
    refine gz_bipush hC (-2) dX8_held_7 (by decide) ?_
    refine gz_goto hC 30 dX8_held_9 (by decide) ?_
    exact gz_iret hC dX8_held_30 ⟨gz_v (by unfold sp_held; first | (rw [q1, q2]; rcases (show pl = 0 ∨ pl = 1 by omega) with e | e <;> subst e <;> rw [hx]; (show I 5 0 = if (0 : Int32) = 0 then g 0 else g 1; rw [if_pos rfl]; exact (hg.2.1 q2).1); (show I 5 1 = if (1 : Int32) = 0 then g 0 else g 1; rw [if_neg (by decide)]; exact (hg.2.1 q2).2.1)) | (rw [q1, q2]; rfl) | (rw [q1]; rfl)), rfl⟩
set_option maxHeartbeats 4000000 in
set_option maxRecDepth 100000 in
theorem ct_X8_about (hJ : gz_inj ad lm_lay) (I : Nat → Nat → Int32) (G : Nat → Nat → UInt64) (th : Bool) (g : Nat → Int32) (hg : xm_g th g I) (x : Int32) : gz_Ct l D ad cy lm_lay yX8_about cX8_about 2 (some .int) 2 [.ref (ad 0), .int x] (I, G) (fun v M1 => v = some (.int (sp_about th g x)) ∧ M1 = (I, G)) := by
  refine gz_met (by decide +kernel) hJ (Nat.le_of_ble_eq_true rfl) ?_
  intro p e s m args below meth c hC
  refine gz_iload_n hC dX8_about_0 rfl ?_
  refine gz_iconst hC (0) dX8_about_1 (by decide) ?_
  refine gz_iconst hC (3) dX8_about_2 (by decide) ?_
  refine gz_callS3 hC dX8_about_3 ml_X8_82 (by decide) (by decide) (Nat.le_of_ble_eq_true rfl) (ct_X8_in hJ _ _ _ _ _) (fun v3 M3 hp3 => ?_)
  obtain ⟨rfl, rfl⟩ := hp3
  refine gz_if_ne hC 12 dX8_about_6 (by decide) (fun c6 => ?_) (fun c6 => ?_)
  · have q1 := gz_b1 c6
    obtain ⟨k, hk, hx⟩ := gz_in_t (n := 4) (by decide) (by decide) q1
    refine gz_aload_n hC dX8_about_12 rfl ?_
    refine gz_getI (j := 8) hC dX8_about_13 cf_X8 fl_X8_78 rfl rfl (by decide) ?_
    rw [hg.1]
    refine gz_if_ne hC 24 dX8_about_16 (by decide) (fun c16 => ?_) (fun c16 => ?_)
    · have q2 := gz_b1 c16
      refine gz_iload_n hC dX8_about_24 rfl ?_
      refine gz_if_ne hC 35 dX8_about_25 (by decide) (fun c25 => ?_) (fun c25 => ?_)
      · refine gz_iload_n hC dX8_about_35 rfl ?_
        refine gz_iconst hC (1) dX8_about_36 (by decide) ?_
        refine gz_icmp_ne hC 47 dX8_about_37 (by decide) (fun c37 => ?_) (fun c37 => ?_)
        · refine gz_iload_n hC dX8_about_47 rfl ?_
          refine gz_iconst hC (2) dX8_about_48 (by decide) ?_
          refine gz_icmp_ne hC 59 dX8_about_49 (by decide) (fun c49 => ?_) (fun c49 => ?_)
          · refine gz_aload_n hC dX8_about_59 rfl ?_
            refine gz_getI (j := 13) hC dX8_about_60 cf_X8 fl_X8_194 rfl rfl (by decide) ?_
            exact gz_iret hC dX8_about_63 ⟨gz_v (by unfold sp_about; first | (rw [q1, q2]; rfl) | (rw [q1, q2, hx, nI_clamp (by omega)]; obtain ⟨a1, a2, a3, a4, a5, a6⟩ := hg.2.1 q2; rcases (show k = 0 ∨ k = 1 ∨ k = 2 ∨ k = 3 by omega) with e | e | e | e <;> subst e <;> subst hx <;> first | exact a3 | exact a4 | exact a5 | exact a6 | exact absurd rfl c25 | exact absurd rfl c37 | exact absurd rfl c49 | exact absurd c25 (by decide) | exact absurd c37 (by decide) | exact absurd c49 (by decide))), rfl⟩
          · refine gz_aload_n hC dX8_about_52 rfl ?_
            refine gz_getI (j := 12) hC dX8_about_53 cf_X8 fl_X8_191 rfl rfl (by decide) ?_
            refine gz_goto hC 63 dX8_about_56 (by decide) ?_
            exact gz_iret hC dX8_about_63 ⟨gz_v (by unfold sp_about; first | (rw [q1, q2]; rfl) | (rw [q1, q2, hx, nI_clamp (by omega)]; obtain ⟨a1, a2, a3, a4, a5, a6⟩ := hg.2.1 q2; rcases (show k = 0 ∨ k = 1 ∨ k = 2 ∨ k = 3 by omega) with e | e | e | e <;> subst e <;> subst hx <;> first | exact a3 | exact a4 | exact a5 | exact a6 | exact absurd rfl c25 | exact absurd rfl c37 | exact absurd rfl c49 | exact absurd c25 (by decide) | exact absurd c37 (by decide) | exact absurd c49 (by decide))), rfl⟩
        · refine gz_aload_n hC dX8_about_40 rfl ?_
          refine gz_getI (j := 11) hC dX8_about_41 cf_X8 fl_X8_188 rfl rfl (by decide) ?_
          refine gz_goto hC 63 dX8_about_44 (by decide) ?_
          exact gz_iret hC dX8_about_63 ⟨gz_v (by unfold sp_about; first | (rw [q1, q2]; rfl) | (rw [q1, q2, hx, nI_clamp (by omega)]; obtain ⟨a1, a2, a3, a4, a5, a6⟩ := hg.2.1 q2; rcases (show k = 0 ∨ k = 1 ∨ k = 2 ∨ k = 3 by omega) with e | e | e | e <;> subst e <;> subst hx <;> first | exact a3 | exact a4 | exact a5 | exact a6 | exact absurd rfl c25 | exact absurd rfl c37 | exact absurd rfl c49 | exact absurd c25 (by decide) | exact absurd c37 (by decide) | exact absurd c49 (by decide))), rfl⟩
      · refine gz_aload_n hC dX8_about_28 rfl ?_
        refine gz_getI (j := 10) hC dX8_about_29 cf_X8 fl_X8_185 rfl rfl (by decide) ?_
        refine gz_goto hC 63 dX8_about_32 (by decide) ?_
        exact gz_iret hC dX8_about_63 ⟨gz_v (by unfold sp_about; first | (rw [q1, q2]; rfl) | (rw [q1, q2, hx, nI_clamp (by omega)]; obtain ⟨a1, a2, a3, a4, a5, a6⟩ := hg.2.1 q2; rcases (show k = 0 ∨ k = 1 ∨ k = 2 ∨ k = 3 by omega) with e | e | e | e <;> subst e <;> subst hx <;> first | exact a3 | exact a4 | exact a5 | exact a6 | exact absurd rfl c25 | exact absurd rfl c37 | exact absurd rfl c49 | exact absurd c25 (by decide) | exact absurd c37 (by decide) | exact absurd c49 (by decide))), rfl⟩
    · have q2 := gz_b0 c16
      refine gz_bipush hC (-3) dX8_about_19 (by decide) ?_
      refine gz_goto hC 63 dX8_about_21 (by decide) ?_
      exact gz_iret hC dX8_about_63 ⟨gz_v (by unfold sp_about; first | (rw [q1, q2]; rfl) | (rw [q1, q2, hx, nI_clamp (by omega)]; obtain ⟨a1, a2, a3, a4, a5, a6⟩ := hg.2.1 q2; rcases (show k = 0 ∨ k = 1 ∨ k = 2 ∨ k = 3 by omega) with e | e | e | e <;> subst e <;> subst hx <;> first | exact a3 | exact a4 | exact a5 | exact a6 | exact absurd rfl c25 | exact absurd rfl c37 | exact absurd rfl c49 | exact absurd c25 (by decide) | exact absurd c37 (by decide) | exact absurd c49 (by decide))), rfl⟩
  · have q1 := gz_b0 c6
    refine gz_bipush hC (-2) dX8_about_9 (by decide) ?_
    exact gz_iret hC dX8_about_11 ⟨gz_v (by unfold sp_about; rw [q1]; rfl), rfl⟩
end CT
