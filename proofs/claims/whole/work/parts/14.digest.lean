/-! the digest of the class -/
section CT
variable {l : Launch} {D : va_G} {ad : Nat → Nat} {cy : Nat → ClassId}
set_option maxHeartbeats 4000000 in
set_option maxRecDepth 100000 in
theorem ct_X7_digest (hJ : gz_inj ad lx_lay) (I : Nat → Nat → Int32) (G : Nat → Nat → UInt64) (d0 d1 F : Nat) (w : Bool) (hO : cf_ok d0 d1 F) (hX : xi_tab d0 d1 F w I) (th : Bool) (g : Nat → Int32) (hg : xi_g th g I) : gz_Ct l D ad cy lx_lay yX7_digest cX7_digest 5 (some .long) 3 [.ref (ad 0)] (I, G) (fun v M1 => v = some (.long (sp_digest d0 d1 F w (I 12) th g)) ∧ M1 = (I, G)) := by
  refine gz_met (by decide +kernel) hJ (Nat.le_of_ble_eq_true rfl) ?_
  intro p e s m args below meth c hC
  refine gz_ldc2l hC dX7_digest_0 kc_X7_194 ?_
  refine gz_lstore_n hC dX7_digest_3 (by decide) ?_
  refine gz_iconst hC (0) dX7_digest_4 (by decide) ?_
  refine gz_istore_n hC dX7_digest_5 (by decide) ?_
  have lp1 : ∀ (n1 i : Nat) (y : Int64) (x3 : Int32) (hi : i + n1 = 7) (hz : x3 = nI i) (hy : y = dg_c (fun k => sp_count d0 d1 F w g (nI k)) i 191), gz_W p l e (gz_rm 3) s m args below meth c D ad cy lx_lay 5 (MQ below (gz_Q D ad cy lx_lay (fun v M1 => v = some (.long (sp_digest d0 d1 F w (I 12) th g)) ∧ M1 = (I, G))) args s 0 0 (gz_A ad lx_lay)) (I, G) 6 [(0, .ref (ad 0)), (1, .long y), (3, .int x3)] [] := by
    intro n1
    induction n1 with
    | zero =>
      intro i y x3 hi hz hy
      refine gz_iload_n hC dX7_digest_6 rfl ?_
      refine gz_bipush hC (7) dX7_digest_7 (by decide) ?_
      refine gz_icmp_ge hC 31 dX7_digest_9 (by decide) (fun c9 => ?_) (fun c9 => ?_)
      · refine gz_iconst hC (0) dX7_digest_31 (by decide) ?_
        refine gz_istore_n hC dX7_digest_32 (by decide) ?_
        have lp2 : ∀ (n2 i : Nat) (y : Int64) (x3 : Int32) (hi : i + n2 = 4) (hz : x3 = nI i) (hy : y = dg_4 (I 12) d0 d1 F i (dg_c (fun k => sp_count d0 d1 F w g (nI k)) 7 191)), gz_W p l e (gz_rm 3) s m args below meth c D ad cy lx_lay 5 (MQ below (gz_Q D ad cy lx_lay (fun v M1 => v = some (.long (sp_digest d0 d1 F w (I 12) th g)) ∧ M1 = (I, G))) args s 0 0 (gz_A ad lx_lay)) (I, G) 33 [(0, .ref (ad 0)), (1, .long y), (3, .int x3)] [] := by
          intro n2
          induction n2 with
          | zero =>
            intro i y x3 hi hz hy
            refine gz_iload_n hC dX7_digest_33 rfl ?_
            refine gz_iconst hC (4) dX7_digest_34 (by decide) ?_
            refine gz_icmp_ge hC 85 dX7_digest_35 (by decide) (fun c35 => ?_) (fun c35 => ?_)
            · refine gz_aload_n hC dX7_digest_85 rfl ?_
              refine gz_getR (j := 4) hC dX7_digest_86 cf_X7 fl_X7_42 rfl rfl (by decide) ?_
              refine gz_getIN (j := 3) hC dX7_digest_89 cf_X2 fl_X7_162 rfl rfl (by decide) ?_
              refine gz_if_ne hC 97 dX7_digest_92 (by decide) (fun c92 => ?_) (fun c92 => ?_)
              · rw [hg.1] at c92
                have q1 := gz_b1 c92
                refine gz_iconst hC (0) dX7_digest_97 (by decide) ?_
                refine gz_istore_n hC dX7_digest_98 (by decide) ?_
                have lp4 : ∀ (n i : Nat) (y : Int64) (x3 : Int32) (hi : i + n = 4) (hz : x3 = nI i) (hy : y = dg_c (fun k => g (2 + k)) i (dg_4 (I 12) d0 d1 F 4 (dg_c (fun k => sp_count d0 d1 F w g (nI k)) 7 191))), gz_W p l e (gz_rm 3) s m args below meth c D ad cy lx_lay 5 (MQ below (gz_Q D ad cy lx_lay (fun v M1 => v = some (.long (sp_digest d0 d1 F w (I 12) th g)) ∧ M1 = (I, G))) args s 0 0 (gz_A ad lx_lay)) (I, G) 99 [(0, .ref (ad 0)), (1, .long y), (3, .int x3)] [] := by
                  intro n
                  induction n with
                  | zero =>
                    intro i y x3 hi hz hy
                    refine gz_iload_n hC dX7_digest_99 rfl ?_
                    refine gz_iconst hC (4) dX7_digest_100 (by decide) ?_
                    refine gz_icmp_ge hC 126 dX7_digest_101 (by decide) (fun c101 => ?_) (fun c101 => ?_)
                    · refine gz_ldc2l hC dX7_digest_126 kc_X7_196 ?_
                      refine gz_lload_n hC dX7_digest_129 rfl ?_
                      refine gz_lmul hC dX7_digest_130 ?_
                      refine gz_aload_n hC dX7_digest_131 rfl ?_
                      refine gz_getR (j := 4) hC dX7_digest_132 cf_X7 fl_X7_42 rfl rfl (by decide) ?_
                      refine gz_iconst hC (0) dX7_digest_135 (by decide) ?_
                      refine gz_callV1 hC dX7_digest_136 ml_X7_159 rfl rfl (by decide) (by decide) (Nat.le_of_ble_eq_true rfl) (ct_X2_handOf hJ _ _ _) (fun v136 M136 hp136 => ?_)
                      obtain ⟨rfl, rfl⟩ := hp136
                      refine gz_i2l hC dX7_digest_139 ?_
                      refine gz_ladd hC dX7_digest_140 ?_
                      refine gz_lstore_n hC dX7_digest_141 (by decide) ?_
                      refine gz_ldc2l hC dX7_digest_142 kc_X7_196 ?_
                      refine gz_lload_n hC dX7_digest_145 rfl ?_
                      refine gz_lmul hC dX7_digest_146 ?_
                      refine gz_aload_n hC dX7_digest_147 rfl ?_
                      refine gz_getR (j := 4) hC dX7_digest_148 cf_X7 fl_X7_42 rfl rfl (by decide) ?_
                      refine gz_iconst hC (1) dX7_digest_151 (by decide) ?_
                      refine gz_callV1 hC dX7_digest_152 ml_X7_159 rfl rfl (by decide) (by decide) (Nat.le_of_ble_eq_true rfl) (ct_X2_handOf hJ _ _ _) (fun v152 M152 hp152 => ?_)
                      obtain ⟨rfl, rfl⟩ := hp152
                      refine gz_i2l hC dX7_digest_155 ?_
                      refine gz_ladd hC dX7_digest_156 ?_
                      exact gz_lret hC dX7_digest_157 ⟨by unfold sp_digest; rw [q1, if_pos rfl, if_neg (by decide), show I 23 4 = g 0 from hg.2.1 q1 0 (by decide), show I 23 5 = g 1 from hg.2.1 q1 1 (by decide), hy, show i = 4 by omega]; rfl, rfl⟩
                    · exact absurd (gz_ile gz_n4 hz (by omega) (by omega)) c101
                  | succ n ih =>
                    intro i y x3 hi hz hy
                    refine gz_iload_n hC dX7_digest_99 rfl ?_
                    refine gz_iconst hC (4) dX7_digest_100 (by decide) ?_
                    refine gz_icmp_ge hC 126 dX7_digest_101 (by decide) (fun c101 => ?_) (fun c101 => ?_)
                    · exact absurd c101 (gz_inle gz_n4 hz (by omega) (by omega))
                    · refine gz_ldc2l hC dX7_digest_104 kc_X7_196 ?_
                      refine gz_lload_n hC dX7_digest_107 rfl ?_
                      refine gz_lmul hC dX7_digest_108 ?_
                      refine gz_aload_n hC dX7_digest_109 rfl ?_
                      refine gz_getR (j := 4) hC dX7_digest_110 cf_X7 fl_X7_42 rfl rfl (by decide) ?_
                      refine gz_iload_n hC dX7_digest_113 rfl ?_
                      refine gz_callV1 hC dX7_digest_114 ml_X7_182 rfl rfl (by decide) (by decide) (Nat.le_of_ble_eq_true rfl) (ct_X2_fact hJ _ _ i (by omega) _ hz) (fun v114 M114 hp114 => ?_)
                      obtain ⟨rfl, rfl⟩ := hp114
                      rw [show 6 + i = 4 + (2 + i) by omega, hg.2.1 q1 (2 + i) (by omega)]
                      refine gz_i2l hC dX7_digest_117 ?_
                      refine gz_ladd hC dX7_digest_118 ?_
                      refine gz_lstore_n hC dX7_digest_119 (by decide) ?_
                      refine gz_iinc hC (1) dX7_digest_120 rfl (by decide) (by decide) ?_
                      refine gz_goto hC 99 dX7_digest_123 (by decide) ?_
                      refine gz_lw [(0, .ref (ad 0)), (1, .long (31 * y + (g (2 + i)).toInt64)), (3, .int (x3 + 1))] ⟨rfl, rfl, rfl, trivial⟩ ?_
                      exact ih (i + 1) _ _ (by omega) (gz_i1 hz) (by rw [hy]; rfl)
                exact gz_lw [(0, .ref (ad 0)), (1, .long y), (3, .int 0)] ⟨rfl, rfl, rfl, trivial⟩ (lp4 4 0 y 0 (by omega) rfl (by rw [hy, show i = 4 by omega]; rfl))
              · rw [hg.1] at c92
                have q1 := gz_b0 c92
                refine gz_lload_n hC dX7_digest_95 rfl ?_
                exact gz_lret hC dX7_digest_96 ⟨by unfold sp_digest; rw [q1, hy, show i = 4 by omega]; rfl, rfl⟩
            · exact absurd (gz_ile gz_n4 hz (by omega) (by omega)) c35
          | succ n2 ih2 =>
            intro i y x3 hi hz hy
            refine gz_iload_n hC dX7_digest_33 rfl ?_
            refine gz_iconst hC (4) dX7_digest_34 (by decide) ?_
            refine gz_icmp_ge hC 85 dX7_digest_35 (by decide) (fun c35 => ?_) (fun c35 => ?_)
            · exact absurd c35 (gz_inle gz_n4 hz (by omega) (by omega))
            · refine gz_iconst hC (0) dX7_digest_38 (by decide) ?_
              refine gz_istore hC dX7_digest_39 (by decide) ?_
              have lp3 : ∀ (n3 pq : Nat) (y : Int64) (x4 : Int32) (hi3 : pq + n3 = 2) (hz4 : x4 = nI pq) (hy : y = dg_2 (I 12) d0 d1 F i pq (dg_4 (I 12) d0 d1 F i (dg_c (fun k => sp_count d0 d1 F w g (nI k)) 7 191))), gz_W p l e (gz_rm 3) s m args below meth c D ad cy lx_lay 5 (MQ below (gz_Q D ad cy lx_lay (fun v M1 => v = some (.long (sp_digest d0 d1 F w (I 12) th g)) ∧ M1 = (I, G))) args s 0 0 (gz_A ad lx_lay)) (I, G) 41 [(0, .ref (ad 0)), (1, .long y), (3, .int x3), (4, .int x4)] [] := by
                intro n3
                induction n3 with
                | zero =>
                  intro pq y x4 hi3 hz4 hy
                  refine gz_iload hC dX7_digest_41 rfl ?_
                  refine gz_iconst hC (2) dX7_digest_43 (by decide) ?_
                  refine gz_icmp_ge hC 79 dX7_digest_44 (by decide) (fun c44 => ?_) (fun c44 => ?_)
                  · refine gz_iinc hC (1) dX7_digest_79 rfl (by decide) (by decide) ?_
                    refine gz_goto hC 33 dX7_digest_82 (by decide) ?_
                    refine gz_lw [(0, .ref (ad 0)), (1, .long y), (3, .int (x3 + 1))] ⟨rfl, rfl, rfl, trivial⟩ ?_
                    exact ih2 (i + 1) _ _ (by omega) (gz_i1 hz) (by rw [hy, show pq = 2 by omega]; rfl)
                  · exact absurd (gz_ile gz_n2 hz4 (by omega) (by omega)) c44
                | succ n3 ih3 =>
                  intro pq y x4 hi3 hz4 hy
                  refine gz_iload hC dX7_digest_41 rfl ?_
                  refine gz_iconst hC (2) dX7_digest_43 (by decide) ?_
                  refine gz_icmp_ge hC 79 dX7_digest_44 (by decide) (fun c44 => ?_) (fun c44 => ?_)
                  · exact absurd c44 (gz_inle gz_n2 hz4 (by omega) (by omega))
                  · refine gz_aload_n hC dX7_digest_47 rfl ?_
                    refine gz_getR (j := 1) hC dX7_digest_48 cf_X7 fl_X7_19 rfl rfl (by decide) ?_
                    refine gz_lload_n hC dX7_digest_51 rfl ?_
                    refine gz_iload_n hC dX7_digest_52 rfl ?_
                    refine gz_aload_n hC dX7_digest_53 rfl ?_
                    refine gz_getR (j := 0) hC dX7_digest_54 cf_X7 fl_X7_12 rfl rfl (by decide) ?_
                    refine gz_iload hC dX7_digest_57 rfl ?_
                    refine gz_callV1 hC dX7_digest_59 ml_X7_68 rfl rfl (by decide) (by decide) (Nat.le_of_ble_eq_true rfl) (ct_X6_cup hJ _ _ _ (3 + 4 * pq) (by rw [hz4]; match pq, (show pq < 2 by omega) with | 0, _ => exact Or.inl ⟨rfl, rfl⟩ | 1, _ => exact Or.inr ⟨by decide, rfl⟩)) (fun v59 M59 hp59 => ?_)
                    obtain ⟨rfl, rfl⟩ := hp59
                    refine gz_aload_n hC dX7_digest_62 rfl ?_
                    refine gz_getR (j := 0) hC dX7_digest_63 cf_X7 fl_X7_12 rfl rfl (by decide) ?_
                    refine gz_getIN (j := 4) hC dX7_digest_66 cf_X6 fl_X7_60 rfl rfl (by decide) ?_
                    refine gz_callV4 hC dX7_digest_69 ml_X7_201 rfl rfl (by decide) (by decide) (Nat.le_of_ble_eq_true rfl) (ct_X4_mix hJ _ _ _ (lx_cupP (show pq < 2 by omega)) (tb_d d0 d1 pq) F ((d0 + d1) * F) i (cf_okP hO (show pq < 2 by omega)) (xi_cupP hX (show pq < 2 by omega)) _ _ _ hz hX.2.1 (by omega) (cf_bids hO).2) (fun v69 M69 hp69 => ?_)
                    obtain ⟨rfl, rfl⟩ := hp69
                    refine gz_lstore_n hC dX7_digest_72 (by decide) ?_
                    refine gz_iinc hC (1) dX7_digest_73 rfl (by decide) (by decide) ?_
                    refine gz_goto hC 41 dX7_digest_76 (by decide) ?_
                    refine gz_lw [(0, .ref (ad 0)), (1, .long (dg_h (I 12) i (tb_d d0 d1 pq) ((d0 + d1) * F) (tb_n (tb_d d0 d1 pq) F) y)), (3, .int x3), (4, .int (x4 + 1))] ⟨rfl, rfl, rfl, rfl, trivial⟩ ?_
                    exact ih3 (pq + 1) _ _ (by omega) (gz_i1 hz4) (by rw [hy]; rfl)
              exact gz_lw [(0, .ref (ad 0)), (1, .long y), (3, .int x3), (4, .int 0)] ⟨rfl, rfl, rfl, rfl, trivial⟩ (lp3 2 0 y 0 (by omega) rfl hy)
        exact gz_lw [(0, .ref (ad 0)), (1, .long y), (3, .int 0)] ⟨rfl, rfl, rfl, trivial⟩ (lp2 4 0 y 0 (by omega) rfl (by rw [hy, show i = 7 by omega]; rfl))
      · exact absurd (gz_ile (show (7 : Int32) = nI 7 from rfl) hz (by omega) (by omega)) c9
    | succ n1 ih1 =>
      intro i y x3 hi hz hy
      refine gz_iload_n hC dX7_digest_6 rfl ?_
      refine gz_bipush hC (7) dX7_digest_7 (by decide) ?_
      refine gz_icmp_ge hC 31 dX7_digest_9 (by decide) (fun c9 => ?_) (fun c9 => ?_)
      · exact absurd c9 (gz_inle (show (7 : Int32) = nI 7 from rfl) hz (by omega) (by omega))
      · refine gz_ldc2l hC dX7_digest_12 kc_X7_196 ?_
        refine gz_lload_n hC dX7_digest_15 rfl ?_
        refine gz_lmul hC dX7_digest_16 ?_
        refine gz_aload_n hC dX7_digest_17 rfl ?_
        refine gz_iload_n hC dX7_digest_18 rfl ?_
        refine gz_callV1 hC dX7_digest_19 ml_X7_198 rfl rfl (by decide) (by decide) (Nat.le_of_ble_eq_true rfl) (ct_X7_count hJ _ _ d0 d1 F w hO hX th g hg _) (fun v19 M19 hp19 => ?_)
        obtain ⟨rfl, rfl⟩ := hp19
        rw [hz]
        refine gz_i2l hC dX7_digest_22 ?_
        refine gz_ladd hC dX7_digest_23 ?_
        refine gz_lstore_n hC dX7_digest_24 (by decide) ?_
        refine gz_iinc hC (1) dX7_digest_25 rfl (by decide) (by decide) ?_
        refine gz_goto hC 6 dX7_digest_28 (by decide) ?_
        refine gz_lw [(0, .ref (ad 0)), (1, .long (31 * y + (sp_count d0 d1 F w g (nI i)).toInt64)), (3, .int (nI i + 1))] ⟨rfl, rfl, rfl, trivial⟩ ?_
        exact ih1 (i + 1) _ _ (by omega) (nI_1 i) (by rw [hy]; rfl)
  exact gz_lw [(0, .ref (ad 0)), (1, .long 191), (3, .int 0)] ⟨rfl, rfl, rfl, trivial⟩ (lp1 7 0 191 0 (by omega) rfl rfl)
  -- places not laid: [7, 9, 12, 15, 16, 17, 18, 19, 22, 23, 24, 25, 28, 31, 32, 33, 34, 35, 38, 39, 41, 43, 44, 47, 48, 51, 52, 53, 54, 57, 59, 62, 63, 66, 69, 72, 73, 76, 79, 82, 85, 86, 89, 92, 95, 96, 97, 98, 99, 100, 101, 104, 107, 108, 109, 110, 113, 114, 117, 118, 119, 120, 123, 126, 129, 130, 131, 132, 135, 136, 139, 140, 141, 142, 145, 146, 147, 148, 151, 152, 155, 156, 157]
end CT
