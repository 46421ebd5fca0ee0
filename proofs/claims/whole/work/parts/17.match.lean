/-! two plans against one another -/
def ev_V (wn : Bool) (T : Nat → UInt64) : Nat → UInt64 := fun q => if q = 0 then cond wn sh_one 0 else T q
/-- what is won on the mean, over the moves below q -/
def ev_f (S V : Nat → UInt64) (la : Nat) : Nat → UInt64
  | 0 => 0
  | q + 1 => cond (tb_mf la q && fp_pos (S q)) (FP.dadd (ev_f S V la q) (FP.dmul (S q) (V q))) (ev_f S V la q)
/-- the table behind n last bids, the greatest first -/
def ev_t (S : Nat → Nat → Nat → UInt64) (tt : Nat → Bool) (bids : Nat) : Nat → Nat → Nat → UInt64
  | 0 => fun _ _ => 0
  | n + 1 => fun la mv => if la = bids - n then ev_f (S mv la) (ev_V (decide (mv = 1) == tt (la - 1)) (fun q => ev_t S tt bids n q (1 - mv))) la (bids + 1) else ev_t S tt bids n la mv
theorem tb_mf_lt {la q : Nat} (h : tb_mf la q = true) : (q = 0 ∧ la ≠ 0) ∨ la < q := by
  unfold tb_mf at h
  by_cases e : q = 0
  · subst e
    refine Or.inl ⟨rfl, fun e2 => ?_⟩
    subst e2
    exact absurd h (by decide)
  · rw [decide_eq_false e] at h
    exact Or.inr (of_decide_eq_true h)
theorem tb_mf_mid {la q : Nat} (h0 : 1 ≤ q) (h : q ≤ la) : tb_mf la q = false := by
  cases e : tb_mf la q with
  | false => rfl
  | true => rcases tb_mf_lt e with ⟨a, _⟩ | a <;> omega
theorem ev_f_b {S V : Nat → UInt64} {la K : Nat} (hK : 1024 ≤ K) : ∀ n, (∀ q, q < n → tb_mf la q = true → fp_b 1057 (S q) ∧ fp_b K (V q)) → K + 35 + 2 * n ≤ 2045 → fp_b (K + 35 + 2 * n) (ev_f S V la n)
  | 0, _, _ => fp_b_mono fp_b_0 (by omega)
  | n + 1, h, hb => by
    have h1 := ev_f_b hK n (fun q hq => h q (by omega)) (by omega)
    unfold ev_f
    cases e : tb_mf la n && fp_pos (S n) with
    | false => exact fp_b_mono h1 (by omega)
    | true =>
      have e2 : tb_mf la n = true := by rw [Bool.and_eq_true] at e; exact e.1
      obtain ⟨a, b⟩ := h n (by omega) e2
      have hm := fp_b_mul a b (by decide) (by omega) (by omega) (by omega)
      exact fp_b_mono (fp_b_add h1 (fp_b_mono hm (by omega)) (by omega)) (by omega)
theorem ev_f_mid {S V : Nat → UInt64} {la : Nat} : ∀ n, n ≤ la → ev_f S V la (n + 1) = ev_f S V la 1
  | 0, _ => rfl
  | n + 1, h => by
    rw [← ev_f_mid n (by omega)]
    show cond (tb_mf la (n + 1) && _) _ _ = _
    rw [tb_mf_mid (by omega) h]
    rfl
theorem ev_f_cg {S S2 V V2 : Nat → UInt64} {la : Nat} : ∀ n, (∀ q, q < n → tb_mf la q = true → S q = S2 q ∧ V q = V2 q) → ev_f S V la n = ev_f S2 V2 la n
  | 0, _ => rfl
  | n + 1, h => by
    have h1 := ev_f_cg n (fun q hq => h q (by omega))
    show cond (tb_mf la n && fp_pos (S n)) _ _ = cond (tb_mf la n && fp_pos (S2 n)) _ _
    rw [h1]
    cases e : tb_mf la n with
    | false => rfl
    | true =>
      obtain ⟨a, b⟩ := h n (by omega) e
      rw [a, b]
theorem ev_t_b {S : Nat → Nat → Nat → UInt64} {tt : Nat → Bool} {bids : Nat} (hbd : bids ≤ 8) (hS : ∀ mv, mv < 2 → ∀ la, la ≤ bids → ∀ q, q ≤ bids → fp_b 1057 (S mv la q)) : ∀ n, n ≤ bids + 1 → ∀ la, la ≤ bids → ∀ mv, mv < 2 → fp_b (1024 + 53 * n) (ev_t S tt bids n la mv)
  | 0, _, _, _, _, _ => fp_b_mono fp_b_0 (by omega)
  | n + 1, hn, la, hla, mv, hmv => by
    have ih := ev_t_b (tt := tt) hbd hS n (by omega)
    unfold ev_t
    show fp_b _ (if _ then _ else _)
    split
    · refine fp_b_mono (ev_f_b (K := 1024 + 53 * n) (by omega) (bids + 1) (fun q hq hm => ⟨hS mv hmv la hla q (by omega), ?_⟩) (by omega)) (by omega)
      unfold ev_V
      split
      · cases decide (mv = 1) == tt (la - 1)
        · exact fp_b_mono fp_b_0 (by omega)
        · exact fp_b_mono fp_b_1 (by omega)
      · exact ih q (by omega) (1 - mv) (by omega)
    · exact fp_b_mono (ih la hla mv hmv) (by omega)
def wo_S (wt : Nat → Int32) (d0 d1 F p q g h : Nat) : Nat → Nat → Nat → UInt64 := fun mv la r => if mv = 0 then sh_v wt (tb_ix p d0 g la 0) la ((d0 + d1) * F) r else sh_v wt (tb_ix q d1 h la 0) la ((d0 + d1) * F) r
def wo_e (wt : Nat → Int32) (d0 d1 F : Nat) (w : Bool) (p q g h : Nat) : UInt64 := ev_t (wo_S wt d0 d1 F p q g h) (tb_t d0 d1 F w g h) ((d0 + d1) * F) ((d0 + d1) * F + 1) 0 0
def wo_h (wt : Nat → Int32) (d0 d1 F : Nat) (w : Bool) (p q g : Nat) : Nat → UInt64 → UInt64
  | 0, a => a
  | h + 1, a => FP.dadd (wo_h wt d0 d1 F w p q g h a) (FP.dmul (FP.i2d (nI (tb_w d0 F g * tb_w d1 F h))) (wo_e wt d0 d1 F w p q g h))
def wo_g (wt : Nat → Int32) (d0 d1 F : Nat) (w : Bool) (p q : Nat) : Nat → UInt64
  | 0 => 0
  | g + 1 => wo_h wt d0 d1 F w p q g (tb_n d1 F) (wo_g wt d0 d1 F w p q g)
def wo_all (wt : Nat → Int32) (d0 d1 F : Nat) (w : Bool) (p q : Nat) : UInt64 := FP.ddiv (wo_g wt d0 d1 F w p q (tb_n d0 F)) (FP.i2d (nI (F ^ d0 * F ^ d1)))
theorem wo_S_b {wt : Nat → Int32} {d0 d1 F p q g h : Nat} (hw : wt_ok wt) (hO : cf_ok d0 d1 F) (hp : p < 4) (hq : q < 4) (hg : g < 4) (hh : h < 4) : ∀ mv, mv < 2 → ∀ la, la ≤ (d0 + d1) * F → ∀ r, r ≤ (d0 + d1) * F → fp_b 1057 (wo_S wt d0 d1 F p q g h mv la r) := by
  intro mv _ la hla r hr
  have T := tb_facts hO.1
  have U := tb_facts hO.2.1
  have B := cf_bids hO
  have a1 := T.2.2.2.2.2.1
  have a2 := T.2.2.2.2.2.2.2.1
  have b1 := U.2.2.2.2.2.1
  have b2 := U.2.2.2.2.2.2.2.1
  unfold wo_S
  split
  · exact sh_b hw (by unfold tb_ix; omega) hr (by omega)
  · exact sh_b hw (by unfold tb_ix; omega) hr (by omega)
theorem wo_e_b {wt : Nat → Int32} {d0 d1 F p q g h : Nat} (w : Bool) (hw : wt_ok wt) (hO : cf_ok d0 d1 F) (hp : p < 4) (hq : q < 4) (hg : g < 4) (hh : h < 4) : fp_b 1501 (wo_e wt d0 d1 F w p q g h) := by
  have B := cf_bids hO
  exact fp_b_mono (ev_t_b (by omega) (wo_S_b hw hO hp hq hg hh) ((d0 + d1) * F + 1) (Nat.le_refl _) 0 (Nat.zero_le _) 0 (by decide)) (by omega)
theorem wo_term_b {wt : Nat → Int32} {d0 d1 F p q g h : Nat} (w : Bool) (hw : wt_ok wt) (hO : cf_ok d0 d1 F) (hp : p < 4) (hq : q < 4) (hg : g < 4) (hh : h < 4) : fp_b 1535 (FP.dmul (FP.i2d (nI (tb_w d0 F g * tb_w d1 F h))) (wo_e wt d0 d1 F w p q g h)) := by
  have T := tb_facts hO.1
  have U := tb_facts hO.2.1
  have m : tb_w d0 F g * tb_w d1 F h ≤ 6 * 6 := Nat.mul_le_mul (tb_w_le T.2.2.2.2.2.1) (tb_w_le U.2.2.2.2.2.1)
  exact fp_b_mono (fp_b_mul (fp_b_i2d (by omega)) (wo_e_b w hw hO hp hq hg hh) (by omega) (by omega) (by omega) (by omega)) (by omega)
theorem wo_h_b {wt : Nat → Int32} {d0 d1 F p q g : Nat} (w : Bool) (hw : wt_ok wt) (hO : cf_ok d0 d1 F) (hp : p < 4) (hq : q < 4) (hg : g < 4) {a : UInt64} {K : Nat} (hK : 1535 ≤ K) (ha : fp_b K a) : ∀ n, n ≤ 4 → K + 2 * n ≤ 2045 → fp_b (K + 2 * n) (wo_h wt d0 d1 F w p q g n a)
  | 0, _, _ => ha
  | n + 1, hn, hb => by
    have h1 := wo_h_b w hw hO hp hq hg hK ha n (by omega) (by omega)
    unfold wo_h
    exact fp_b_mono (fp_b_add h1 (fp_b_mono (wo_term_b w hw hO hp hq hg (show n < 4 by omega)) (by omega)) (by omega)) (by omega)
theorem wo_g_b {wt : Nat → Int32} {d0 d1 F p q : Nat} (w : Bool) (hw : wt_ok wt) (hO : cf_ok d0 d1 F) (hp : p < 4) (hq : q < 4) : ∀ n, n ≤ 4 → fp_b (1535 + 8 * n) (wo_g wt d0 d1 F w p q n)
  | 0, _ => fp_b_mono fp_b_0 (by decide)
  | n + 1, hn => by
    have h1 := wo_g_b w hw hO hp hq n (by omega)
    have U := (tb_facts hO.2.1).2.2.2.2.1
    unfold wo_g
    exact fp_b_mono (wo_h_b w hw hO hp hq (show n < 4 by omega) (by omega) h1 (tb_n d1 F) U (by omega)) (by omega)
theorem wo_all_b {wt : Nat → Int32} {d0 d1 F p q : Nat} (w : Bool) (hw : wt_ok wt) (hO : cf_ok d0 d1 F) (hp : p < 4) (hq : q < 4) : fp_b 1568 (wo_all wt d0 d1 F w p q) := by
  have T := (tb_facts hO.1)
  have U := (tb_facts hO.2.1)
  have h1 := wo_g_b w hw hO hp hq (tb_n d0 F) T.2.2.2.2.1
  have e1 : F ^ d0 * F ^ d1 ≤ 4 ^ 3 * 4 ^ 3 := Nat.mul_le_mul (Nat.le_trans (Nat.pow_le_pow_left T.2.2.2.2.2.2.1 d0) (Nat.pow_le_pow_right (by decide) T.2.2.2.2.2.1)) (Nat.le_trans (Nat.pow_le_pow_left T.2.2.2.2.2.2.1 d1) (Nat.pow_le_pow_right (by decide) U.2.2.2.2.2.1))
  have e2 : 0 < F ^ d0 * F ^ d1 := Nat.mul_pos (Nat.pow_pos (by omega)) (Nat.pow_pos (by omega))
  exact fp_b_mono (fp_b_div (K := 1567) (fp_b_mono h1 (by omega)) (fp_b_i2d (by omega)) (fp_i2d_1 e2 (by omega)) (by decide) (by decide) (by decide)) (by decide)
section CT
variable {l : Launch} {D : va_G} {ad : Nat → Nat} {cy : Nat → ClassId}
set_option maxHeartbeats 4000000 in
set_option maxRecDepth 100000 in
theorem ct_X3_expectedAt (hJ : gz_inj ad lx_lay) (I : Nat → Nat → Int32) (G : Nat → Nat → UInt64) (d0 d1 F : Nat) (w : Bool) (hO : cf_ok d0 d1 F) (hX : xi_tab d0 d1 F w I) (g h la mv K : Nat) (x1 x2 x3 x4 : Int32) (hx1 : x1 = nI g) (hx2 : x2 = nI h) (hx3 : x3 = nI la - 1) (hx4 : x4 = nI mv) (hg : g < tb_n d0 F) (hh : h < tb_n d1 F) (hla : la ≤ (d0 + d1) * F) (hmv : mv < 2) (S : Nat → Nat → Nat → UInt64) (h0 : ∀ la, la ≤ (d0 + d1) * F → ∀ q, q ≤ (d0 + d1) * F → G 15 ((g * 9 + la) * 9 + q) = S 0 la q) (h1 : ∀ la, la ≤ (d0 + d1) * F → ∀ q, q ≤ (d0 + d1) * F → G 17 ((h * 9 + la) * 9 + q) = S 1 la q) (hSb : ∀ mv, mv < 2 → ∀ la, la ≤ (d0 + d1) * F → ∀ q, q ≤ (d0 + d1) * F → fp_b 1057 (S mv la q)) (hS0 : ∀ mv, mv < 2 → fp_pos (S mv 0 0) = false) (T : Nat → UInt64) (hK1 : 1024 ≤ K) (hK2 : K ≤ 1700) (hT : ∀ q, la < q → q ≤ (d0 + d1) * F → G 18 ((q - 1) * 2 + (1 - mv)) = T q ∧ fp_b K (T q)) : gz_Ct l D ad cy lx_lay yX3_expectedAt cX3_expectedAt 14 (some .double) 3 [.ref (ad 13), .int x1, .int x2, .int x3, .int x4] (I, G) (fun v M1 => v = some (.double (ev_f (S mv la) (ev_V (decide (mv = 1) == tb_t d0 d1 F w g h (la - 1)) T) la ((d0 + d1) * F + 1))) ∧ M1 = (I, G)) := by
  obtain ⟨T1, T2, T3, T4, T5, T6, T7, T8, T9⟩ := tb_facts hO.1
  obtain ⟨U1, U2, U3, U4, U5, U6, U7, U8, U9⟩ := tb_facts hO.2.1
  have Bd := cf_bids hO
  obtain ⟨ks, ow, hks0, how, hks, hSv⟩ : ∃ ks ow : Nat, ks = (if mv = 0 then 14 else 16) ∧ ow = (if mv = 0 then g else h) ∧ lx_sh ks ∧ ∀ la, la ≤ (d0 + d1) * F → ∀ q, q ≤ (d0 + d1) * F → G (ks + 1) ((ow * 9 + la) * 9 + q) = S mv la q := by
    match mv, hmv with
    | 0, _ => exact ⟨14, g, rfl, rfl, lx_sh14, h0⟩
    | 1, _ => exact ⟨16, h, rfl, rfl, lx_sh16, h1⟩
  have how4 : ow < 4 := by rw [how]; split <;> omega
  have hVb : ∀ q, q ≤ (d0 + d1) * F → tb_mf la q = true → fp_b K ((ev_V (decide (mv = 1) == tb_t d0 d1 F w g h (la - 1)) T) q) := by
    intro q hq hm
    unfold ev_V
    split
    · cases decide (mv = 1) == tb_t d0 d1 F w g h (la - 1)
      · exact fp_b_mono fp_b_0 (by omega)
      · exact fp_b_mono fp_b_1 (by omega)
    · rcases tb_mf_lt hm with ⟨a, _⟩ | a
      · contradiction
      · exact (hT q a hq).2
  have hmz : ∀ z : Int32, z = nI mv → ((z = 0 → mv = 0) ∧ (¬ z = 0 → mv = 1)) := by
    intro z hz
    match mv, hmv with
    | 0, _ => exact ⟨fun _ => rfl, fun q => absurd hz q⟩
    | 1, _ => exact ⟨fun q => absurd (q.symm.trans hz) (by decide), fun _ => rfl⟩
  refine gz_met (by decide +kernel) hJ (Nat.le_of_ble_eq_true rfl) ?_
  intro p e s m args below meth c hC
  have rest : ∀ (x6 : Int32) (hx6 : x6 = nI ow), gz_W p l e (gz_rm 3) s m args below meth c D ad cy lx_lay 14 (MQ below (gz_Q D ad cy lx_lay (fun v M1 => v = some (.double (ev_f (S mv la) (ev_V (decide (mv = 1) == tb_t d0 d1 F w g h (la - 1)) T) la ((d0 + d1) * F + 1))) ∧ M1 = (I, G))) args s 0 0 (gz_A ad lx_lay)) (I, G) 30 [(0, .ref (ad 13)), (1, .int x1), (2, .int x2), (3, .int x3), (4, .int x4), (5, .ref (ad ks)), (6, .int x6)] [] := by
    intro x6 hx6
    have rest100 : ∀ (y : UInt64) (hy : y = ev_f (S mv la) (ev_V (decide (mv = 1) == tb_t d0 d1 F w g h (la - 1)) T) la 1), gz_W p l e (gz_rm 3) s m args below meth c D ad cy lx_lay 14 (MQ below (gz_Q D ad cy lx_lay (fun v M1 => v = some (.double (ev_f (S mv la) (ev_V (decide (mv = 1) == tb_t d0 d1 F w g h (la - 1)) T) la ((d0 + d1) * F + 1))) ∧ M1 = (I, G))) args s 0 0 (gz_A ad lx_lay)) (I, G) 100 [(0, .ref (ad 13)), (1, .int x1), (2, .int x2), (3, .int x3), (4, .int x4), (5, .ref (ad ks)), (6, .int x6), (7, .double y)] [] := by
      intro y hy
      refine gz_iload_n hC dX3_expectedAt_100 rfl ?_
      refine gz_iconst hC (1) dX3_expectedAt_101 (by decide) ?_
      refine gz_iadd hC dX3_expectedAt_102 ?_
      refine gz_istore hC dX3_expectedAt_103 (by decide) ?_
      have lp : ∀ (n q : Nat) (y : UInt64) (x11 : Int32) (hi : q + n = (d0 + d1) * F + 1) (hlq : la < q) (hz : x11 = nI q - 1) (hy : y = ev_f (S mv la) (ev_V (decide (mv = 1) == tb_t d0 d1 F w g h (la - 1)) T) la q), gz_W p l e (gz_rm 3) s m args below meth c D ad cy lx_lay 14 (MQ below (gz_Q D ad cy lx_lay (fun v M1 => v = some (.double (ev_f (S mv la) (ev_V (decide (mv = 1) == tb_t d0 d1 F w g h (la - 1)) T) la ((d0 + d1) * F + 1))) ∧ M1 = (I, G))) args s 0 0 (gz_A ad lx_lay)) (I, G) 105 [(0, .ref (ad 13)), (1, .int x1), (2, .int x2), (3, .int x3), (4, .int x4), (5, .ref (ad ks)), (6, .int x6), (7, .double y), (11, .int x11)] [] := by
        intro n
        induction n with
        | zero =>
          intro q y x11 hi hlq hz hy
          refine gz_iload hC dX3_expectedAt_105 rfl ?_
          refine gz_aload_n hC dX3_expectedAt_107 rfl ?_
          refine gz_getR (j := 0) hC dX3_expectedAt_108 cf_X3 fl_X3_25 rfl rfl (by decide) ?_
          refine gz_getIN (j := 4) hC dX3_expectedAt_111 cf_X6 fl_X3_35 rfl rfl (by decide) ?_
          refine gz_icmp_ge hC 166 dX3_expectedAt_114 (by decide) (fun c114 => ?_) (fun c114 => ?_)
          · refine gz_dload hC dX3_expectedAt_166 rfl ?_
            exact gz_dret hC dX3_expectedAt_168 ⟨by rw [hy, show q = (d0 + d1) * F + 1 by omega], rfl⟩
          · exact absurd (nM_ge hz hX.2.1 (by omega) (by omega) (by omega)) c114
        | succ n ih =>
          intro q y x11 hi hlq hz hy
          refine gz_iload hC dX3_expectedAt_105 rfl ?_
          refine gz_aload_n hC dX3_expectedAt_107 rfl ?_
          refine gz_getR (j := 0) hC dX3_expectedAt_108 cf_X3 fl_X3_25 rfl rfl (by decide) ?_
          refine gz_getIN (j := 4) hC dX3_expectedAt_111 cf_X6 fl_X3_35 rfl rfl (by decide) ?_
          refine gz_icmp_ge hC 166 dX3_expectedAt_114 (by decide) (fun c114 => ?_) (fun c114 => ?_)
          · exact absurd c114 (nM_nge hz hX.2.1 (by omega) (by omega) (by omega))
          · refine gz_aload hC dX3_expectedAt_117 rfl ?_
            refine gz_iload hC dX3_expectedAt_119 rfl ?_
            refine gz_iload_n hC dX3_expectedAt_121 rfl ?_
            refine gz_iload hC dX3_expectedAt_122 rfl ?_
            refine gz_callV3 hC dX3_expectedAt_124 ml_X3_68 hks.1 rfl (by decide) (by decide) (Nat.le_of_ble_eq_true rfl) (ct_X5_of hJ _ _ ks hks ow la q _ _ _ hx6 hx3 hz (by omega) (by omega) (by omega)) (fun v124 M124 hp124 => ?_)
            obtain ⟨rfl, rfl⟩ := hp124
            rw [hSv la hla q (by omega)]
            refine gz_dstore hC dX3_expectedAt_127 (by decide) ?_
            refine gz_dload hC dX3_expectedAt_129 rfl ?_
            refine gz_dconst0 hC dX3_expectedAt_131 ?_
            refine gz_dcmp hC dX3_expectedAt_132 ?_
            refine gz_if_le hC 160 dX3_expectedAt_133 (by decide) (fun c133 => ?_) (fun c133 => ?_)
            · have hp := fp_leF c133
              refine gz_iinc hC (1) dX3_expectedAt_160 rfl (by decide) (by decide) ?_
              refine gz_goto hC 105 dX3_expectedAt_163 (by decide) ?_
              first
                | (have hp1 : fp_gt (S mv la q) 0 = true := hp
                   refine gz_lw [(0, .ref (ad 13)), (1, .int x1), (2, .int x2), (3, .int x3), (4, .int x4), (5, .ref (ad ks)), (6, .int x6), (7, .double (FP.dadd y (FP.dmul (S mv la q) (T q)))), (11, .int (x11 + 1))] ⟨rfl, rfl, rfl, rfl, rfl, rfl, rfl, rfl, rfl, trivial⟩ ?_
                   exact ih (q + 1) _ _ (by omega) (by omega) (nM_s hz) (by rw [hy]; show _ = cond (tb_mf la q && fp_pos (S mv la q)) _ _; rw [hqm, show fp_pos (S mv la q) = true from hp1]; show _ = FP.dadd _ (FP.dmul _ (if q = 0 then _ else T q)); rw [if_neg (show ¬ q = 0 by omega)])
                   done)
                | (have hp1 : fp_gt (S mv la q) 0 = false := hp
                   refine gz_lw [(0, .ref (ad 13)), (1, .int x1), (2, .int x2), (3, .int x3), (4, .int x4), (5, .ref (ad ks)), (6, .int x6), (7, .double y), (11, .int (x11 + 1))] ⟨rfl, rfl, rfl, rfl, rfl, rfl, rfl, rfl, rfl, trivial⟩ ?_
                   exact ih (q + 1) _ _ (by omega) (by omega) (nM_s hz) (by rw [hy]; show _ = cond (tb_mf la q && fp_pos (S mv la q)) _ _; rw [show fp_pos (S mv la q) = false from hp1, Bool.and_false]; rfl)
                   done)
            · have hp := fp_leT c133
              have hqm : tb_mf la q = true := by unfold tb_mf; rw [decide_eq_false (show ¬ q = 0 by omega), decide_eq_true (show la < q by omega)]; rfl
              have hterm := fp_b_mul (hSb mv hmv la hla q (by omega)) (hT q (by omega) (by omega)).2 (by decide) (by omega) (by omega) (by omega)
              have hacc := ev_f_b (S := S mv la) (V := (ev_V (decide (mv = 1) == tb_t d0 d1 F w g h (la - 1)) T)) (la := la) (K := K) hK1 q (fun q2 hq2 hm => ⟨hSb mv hmv la hla q2 (by omega), hVb q2 (by omega) hm⟩) (by omega)
              rw [← hy] at hacc
              refine gz_dload hC dX3_expectedAt_136 rfl ?_
              refine gz_dload hC dX3_expectedAt_138 rfl ?_
              refine gz_aload_n hC dX3_expectedAt_140 rfl ?_
              refine gz_getR (j := 3) hC dX3_expectedAt_141 cf_X3 fl_X3_21 rfl rfl (by decide) ?_
              refine gz_iload hC dX3_expectedAt_144 rfl ?_
              refine gz_iconst hC (2) dX3_expectedAt_146 (by decide) ?_
              refine gz_imul hC dX3_expectedAt_147 ?_
              refine gz_iconst hC (1) dX3_expectedAt_148 (by decide) ?_
              refine gz_iadd hC dX3_expectedAt_149 ?_
              refine gz_iload hC dX3_expectedAt_150 rfl ?_
              refine gz_isub hC dX3_expectedAt_152 ?_
              have hidx : x11 * 2 + 1 - x4 = nI ((q - 1) * 2 + (1 - mv)) := by rw [hz, hx4, show nI q - 1 = nI (q - 1) from pk_sub (b := 1) (by omega), gz_n2, gz_n1, pk_mul, nI_add, pk_sub (by omega), show (q - 1) * 2 + 1 - mv = (q - 1) * 2 + (1 - mv) by omega]
              refine gz_callSN2 hC dX3_expectedAt_153 ml_X3_76 (by decide) (by decide) (Nat.le_of_ble_eq_true rfl) (ct_X7_realAt hJ _ _ 18 16 ((q - 1) * 2 + (1 - mv)) rfl (by decide) _ (by exact hidx) (by omega)) (fun v153 M153 hp153 => ?_)
              obtain ⟨rfl, rfl⟩ := hp153
              rw [(hT q (by omega) (by omega)).1]
              refine gz_dmul hC dX3_expectedAt_156 (fp_b_n64 hterm (by omega)) ?_
              refine gz_dadd hC dX3_expectedAt_157 (fp_b_n64 (fp_b_add hacc (fp_b_mono hterm (by omega)) (by omega)) (by omega)) ?_
              refine gz_dstore hC dX3_expectedAt_158 (by decide) ?_
              refine gz_iinc hC (1) dX3_expectedAt_160 rfl (by decide) (by decide) ?_
              refine gz_goto hC 105 dX3_expectedAt_163 (by decide) ?_
              first
                | (have hp1 : fp_gt (S mv la q) 0 = true := hp
                   refine gz_lw [(0, .ref (ad 13)), (1, .int x1), (2, .int x2), (3, .int x3), (4, .int x4), (5, .ref (ad ks)), (6, .int x6), (7, .double (FP.dadd y (FP.dmul (S mv la q) (T q)))), (11, .int (x11 + 1))] ⟨rfl, rfl, rfl, rfl, rfl, rfl, rfl, rfl, rfl, trivial⟩ ?_
                   exact ih (q + 1) _ _ (by omega) (by omega) (nM_s hz) (by rw [hy]; show _ = cond (tb_mf la q && fp_pos (S mv la q)) _ _; rw [hqm, show fp_pos (S mv la q) = true from hp1]; show _ = FP.dadd _ (FP.dmul _ (if q = 0 then _ else T q)); rw [if_neg (show ¬ q = 0 by omega)])
                   done)
                | (have hp1 : fp_gt (S mv la q) 0 = false := hp
                   refine gz_lw [(0, .ref (ad 13)), (1, .int x1), (2, .int x2), (3, .int x3), (4, .int x4), (5, .ref (ad ks)), (6, .int x6), (7, .double y), (11, .int (x11 + 1))] ⟨rfl, rfl, rfl, rfl, rfl, rfl, rfl, rfl, rfl, trivial⟩ ?_
                   exact ih (q + 1) _ _ (by omega) (by omega) (nM_s hz) (by rw [hy]; show _ = cond (tb_mf la q && fp_pos (S mv la q)) _ _; rw [show fp_pos (S mv la q) = false from hp1, Bool.and_false]; rfl)
                   done)
      refine gz_lw [(0, .ref (ad 13)), (1, .int x1), (2, .int x2), (3, .int x3), (4, .int x4), (5, .ref (ad ks)), (6, .int x6), (7, .double y), (11, .int (x3 + 1))] ⟨rfl, rfl, rfl, rfl, rfl, rfl, rfl, rfl, rfl, trivial⟩ ?_
      exact lp ((d0 + d1) * F - la) (la + 1) _ _ (by omega) (by omega) (by rw [hx3, Int32.sub_add_cancel, nI_pred]) (by rw [ev_f_mid la (Nat.le_refl la)]; exact hy)
    have rest80 : tb_mf la 0 = true → fp_gt (S mv la 0) 0 = true → ∀ (x : Int32) (hx : x = gz_b (decide (mv = 1) == tb_t d0 d1 F w g h (la - 1))), gz_W p l e (gz_rm 3) s m args below meth c D ad cy lx_lay 14 (MQ below (gz_Q D ad cy lx_lay (fun v M1 => v = some (.double (ev_f (S mv la) (ev_V (decide (mv = 1) == tb_t d0 d1 F w g h (la - 1)) T) la ((d0 + d1) * F + 1))) ∧ M1 = (I, G))) args s 0 0 (gz_A ad lx_lay)) (I, G) 80 [(0, .ref (ad 13)), (1, .int x1), (2, .int x2), (3, .int x3), (4, .int x4), (5, .ref (ad ks)), (6, .int x6), (7, .double 0), (9, .double (S mv la 0))] [.int x] := by
      intro hl1 hp x hx
      refine gz_istore hC dX3_expectedAt_80 (by decide) ?_
      refine gz_dload hC dX3_expectedAt_82 rfl ?_
      refine gz_dload hC dX3_expectedAt_84 rfl ?_
      refine gz_iload hC dX3_expectedAt_86 rfl ?_
      refine gz_if_eq hC 95 dX3_expectedAt_88 (by decide) (fun c88 => ?_) (fun c88 => ?_)
      · have q88 := gz_b0 (hx.symm.trans c88)
        have hV0 : (ev_V (decide (mv = 1) == tb_t d0 d1 F w g h (la - 1)) T) 0 = 0 := by
          show cond (decide (mv = 1) == tb_t d0 d1 F w g h (la - 1)) sh_one 0 = 0
          rw [q88]
          rfl
        refine gz_dconst0 hC dX3_expectedAt_95 ?_
        have hq1 := fp_b_mul (hSb mv hmv la hla 0 (by omega)) (hVb 0 (by omega) hl1) (by decide) (by omega) (by omega) (by omega)
        rw [hV0] at hq1
        refine gz_dmul hC dX3_expectedAt_96 (fp_b_n64 hq1 (by omega)) ?_
        refine gz_dadd hC dX3_expectedAt_97 (fp_b_n64 (fp_b_add (fp_b_mono fp_b_0 (by omega)) hq1 (by omega)) (by omega)) ?_
        refine gz_dstore hC dX3_expectedAt_98 (by decide) ?_
        refine gz_lw [(0, .ref (ad 13)), (1, .int x1), (2, .int x2), (3, .int x3), (4, .int x4), (5, .ref (ad ks)), (6, .int x6), (7, .double (FP.dadd 0 (FP.dmul (S mv la 0) ((ev_V (decide (mv = 1) == tb_t d0 d1 F w g h (la - 1)) T) 0))))] ⟨rfl, rfl, rfl, rfl, rfl, rfl, rfl, by rw [hV0]; rfl, trivial⟩ ?_
        exact rest100 _ (by show _ = cond (tb_mf la 0 && fp_pos (S mv la 0)) (FP.dadd 0 (FP.dmul (S mv la 0) ((ev_V (decide (mv = 1) == tb_t d0 d1 F w g h (la - 1)) T) 0))) 0; rw [show fp_pos (S mv la 0) = true from hp, hl1]; rfl)
      · have q88 : (decide (mv = 1) == tb_t d0 d1 F w g h (la - 1)) = true := gz_b1 (fun q => c88 (hx.trans q))
        have hV0 : (ev_V (decide (mv = 1) == tb_t d0 d1 F w g h (la - 1)) T) 0 = 4607182418800017408 := by
          show cond (decide (mv = 1) == tb_t d0 d1 F w g h (la - 1)) sh_one 0 = _
          rw [q88]
          rfl
        refine gz_dconst1 hC dX3_expectedAt_91 ?_
        refine gz_goto hC 96 dX3_expectedAt_92 (by decide) ?_
        have hq1 := fp_b_mul (hSb mv hmv la hla 0 (by omega)) (hVb 0 (by omega) hl1) (by decide) (by omega) (by omega) (by omega)
        rw [hV0] at hq1
        refine gz_dmul hC dX3_expectedAt_96 (fp_b_n64 hq1 (by omega)) ?_
        refine gz_dadd hC dX3_expectedAt_97 (fp_b_n64 (fp_b_add (fp_b_mono fp_b_0 (by omega)) hq1 (by omega)) (by omega)) ?_
        refine gz_dstore hC dX3_expectedAt_98 (by decide) ?_
        refine gz_lw [(0, .ref (ad 13)), (1, .int x1), (2, .int x2), (3, .int x3), (4, .int x4), (5, .ref (ad ks)), (6, .int x6), (7, .double (FP.dadd 0 (FP.dmul (S mv la 0) ((ev_V (decide (mv = 1) == tb_t d0 d1 F w g h (la - 1)) T) 0))))] ⟨rfl, rfl, rfl, rfl, rfl, rfl, rfl, by rw [hV0]; rfl, trivial⟩ ?_
        exact rest100 _ (by show _ = cond (tb_mf la 0 && fp_pos (S mv la 0)) (FP.dadd 0 (FP.dmul (S mv la 0) ((ev_V (decide (mv = 1) == tb_t d0 d1 F w g h (la - 1)) T) 0))) 0; rw [show fp_pos (S mv la 0) = true from hp, hl1]; rfl)
    refine gz_dconst0 hC dX3_expectedAt_30 ?_
    refine gz_dstore hC dX3_expectedAt_31 (by decide) ?_
    refine gz_aload hC dX3_expectedAt_33 rfl ?_
    refine gz_iload hC dX3_expectedAt_35 rfl ?_
    refine gz_iload_n hC dX3_expectedAt_37 rfl ?_
    refine gz_iconst hC (-1) dX3_expectedAt_38 (by decide) ?_
    refine gz_callV3 hC dX3_expectedAt_39 ml_X3_68 hks.1 rfl (by decide) (by decide) (Nat.le_of_ble_eq_true rfl) (ct_X5_of hJ _ _ ks hks ow la 0 _ _ _ hx6 hx3 nM_0 (by omega) (by omega) (by omega)) (fun v39 M39 hp39 => ?_)
    obtain ⟨rfl, rfl⟩ := hp39
    rw [hSv la hla 0 (by omega)]
    refine gz_dstore hC dX3_expectedAt_42 (by decide) ?_
    refine gz_dload hC dX3_expectedAt_44 rfl ?_
    refine gz_dconst0 hC dX3_expectedAt_46 ?_
    refine gz_dcmp hC dX3_expectedAt_47 ?_
    refine gz_if_le hC 100 dX3_expectedAt_48 (by decide) (fun c48 => ?_) (fun c48 => ?_)
    · have hp := fp_leF c48
      refine gz_lw [(0, .ref (ad 13)), (1, .int x1), (2, .int x2), (3, .int x3), (4, .int x4), (5, .ref (ad ks)), (6, .int x6), (7, .double 0)] ⟨rfl, rfl, rfl, rfl, rfl, rfl, rfl, rfl, trivial⟩ ?_
      exact rest100 0 (by show _ = cond (tb_mf la 0 && fp_pos (S mv la 0)) (FP.dadd 0 (FP.dmul (S mv la 0) ((ev_V (decide (mv = 1) == tb_t d0 d1 F w g h (la - 1)) T) 0))) 0; rw [show fp_pos (S mv la 0) = false from hp, Bool.and_false]; rfl)
    · have hp := fp_leT c48
      have hl0 : ¬ la = 0 := by intro e; subst e; rw [show fp_gt (S mv 0 0) 0 = fp_pos (S mv 0 0) from rfl, hS0 mv hmv] at hp; cases hp
      have hl1 : tb_mf la 0 = true := by unfold tb_mf; rw [decide_eq_true rfl, decide_eq_false hl0]; rfl
      refine gz_iload hC dX3_expectedAt_51 rfl ?_
      refine gz_iconst hC (1) dX3_expectedAt_53 (by decide) ?_
      refine gz_icmp_ne hC 61 dX3_expectedAt_54 (by decide) (fun c54 => ?_) (fun c54 => ?_)
      · have hm1 : ¬ mv = 1 := fun e => c54 (by rw [hx4, e]; rfl)
        refine gz_iconst hC (0) dX3_expectedAt_61 (by decide) ?_
        refine gz_aload_n hC dX3_expectedAt_62 rfl ?_
        refine gz_getR (j := 0) hC dX3_expectedAt_63 cf_X3 fl_X3_25 rfl rfl (by decide) ?_
        refine gz_iload_n hC dX3_expectedAt_66 rfl ?_
        refine gz_iload_n hC dX3_expectedAt_67 rfl ?_
        refine gz_iload_n hC dX3_expectedAt_68 rfl ?_
        refine gz_callV3 hC dX3_expectedAt_69 ml_X3_72 rfl rfl (by decide) (by decide) (Nat.le_of_ble_eq_true rfl) (ct_X6_isTrue hJ _ _ d0 d1 F w hO hX g h (la - 1) _ _ _ hx1 hx2 (by rw [hx3]; exact pk_sub (b := 1) (by omega)) hg hh (by omega)) (fun v69 M69 hp69 => ?_)
        obtain ⟨rfl, rfl⟩ := hp69
        refine gz_icmp_ne hC 79 dX3_expectedAt_72 (by decide) (fun c72 => ?_) (fun c72 => ?_)
        · have hq72 : (decide (mv = 1) == tb_t d0 d1 F w g h (la - 1)) = false := by
            cases e : tb_t d0 d1 F w g h (la - 1) <;> rw [e] at c72 <;> first | (rw [decide_eq_true hm1]; first | rfl | exact absurd rfl c72) | (rw [decide_eq_false hm1]; first | rfl | exact absurd rfl c72)
          refine gz_iconst hC (0) dX3_expectedAt_79 (by decide) ?_
          refine gz_lw [(0, .ref (ad 13)), (1, .int x1), (2, .int x2), (3, .int x3), (4, .int x4), (5, .ref (ad ks)), (6, .int x6), (7, .double 0), (9, .double (S mv la 0))] ⟨rfl, rfl, rfl, rfl, rfl, rfl, rfl, rfl, rfl, trivial⟩ ?_
          exact rest80 hl1 hp _ (by rw [hq72]; rfl)
        · have hq72 : (decide (mv = 1) == tb_t d0 d1 F w g h (la - 1)) = true := by
            cases e : tb_t d0 d1 F w g h (la - 1) <;> rw [e] at c72 <;> first | (rw [decide_eq_true hm1]; first | rfl | exact absurd c72 (by decide)) | (rw [decide_eq_false hm1]; first | rfl | exact absurd c72 (by decide))
          refine gz_iconst hC (1) dX3_expectedAt_75 (by decide) ?_
          refine gz_goto hC 80 dX3_expectedAt_76 (by decide) ?_
          refine gz_lw [(0, .ref (ad 13)), (1, .int x1), (2, .int x2), (3, .int x3), (4, .int x4), (5, .ref (ad ks)), (6, .int x6), (7, .double 0), (9, .double (S mv la 0))] ⟨rfl, rfl, rfl, rfl, rfl, rfl, rfl, rfl, rfl, trivial⟩ ?_
          exact rest80 hl1 hp _ (by rw [hq72]; rfl)
      · have hm1 : mv = 1 := by rcases (show mv = 0 ∨ mv = 1 by omega) with e | e; exact absurd (hx4.symm.trans c54) (by rw [e]; decide); exact e
        refine gz_iconst hC (1) dX3_expectedAt_57 (by decide) ?_
        refine gz_goto hC 62 dX3_expectedAt_58 (by decide) ?_
        refine gz_aload_n hC dX3_expectedAt_62 rfl ?_
        refine gz_getR (j := 0) hC dX3_expectedAt_63 cf_X3 fl_X3_25 rfl rfl (by decide) ?_
        refine gz_iload_n hC dX3_expectedAt_66 rfl ?_
        refine gz_iload_n hC dX3_expectedAt_67 rfl ?_
        refine gz_iload_n hC dX3_expectedAt_68 rfl ?_
        refine gz_callV3 hC dX3_expectedAt_69 ml_X3_72 rfl rfl (by decide) (by decide) (Nat.le_of_ble_eq_true rfl) (ct_X6_isTrue hJ _ _ d0 d1 F w hO hX g h (la - 1) _ _ _ hx1 hx2 (by rw [hx3]; exact pk_sub (b := 1) (by omega)) hg hh (by omega)) (fun v69 M69 hp69 => ?_)
        obtain ⟨rfl, rfl⟩ := hp69
        refine gz_icmp_ne hC 79 dX3_expectedAt_72 (by decide) (fun c72 => ?_) (fun c72 => ?_)
        · have hq72 : (decide (mv = 1) == tb_t d0 d1 F w g h (la - 1)) = false := by
            cases e : tb_t d0 d1 F w g h (la - 1) <;> rw [e] at c72 <;> first | (rw [decide_eq_true hm1]; first | rfl | exact absurd rfl c72) | (rw [decide_eq_false hm1]; first | rfl | exact absurd rfl c72)
          refine gz_iconst hC (0) dX3_expectedAt_79 (by decide) ?_
          refine gz_lw [(0, .ref (ad 13)), (1, .int x1), (2, .int x2), (3, .int x3), (4, .int x4), (5, .ref (ad ks)), (6, .int x6), (7, .double 0), (9, .double (S mv la 0))] ⟨rfl, rfl, rfl, rfl, rfl, rfl, rfl, rfl, rfl, trivial⟩ ?_
          exact rest80 hl1 hp _ (by rw [hq72]; rfl)
        · have hq72 : (decide (mv = 1) == tb_t d0 d1 F w g h (la - 1)) = true := by
            cases e : tb_t d0 d1 F w g h (la - 1) <;> rw [e] at c72 <;> first | (rw [decide_eq_true hm1]; first | rfl | exact absurd c72 (by decide)) | (rw [decide_eq_false hm1]; first | rfl | exact absurd c72 (by decide))
          refine gz_iconst hC (1) dX3_expectedAt_75 (by decide) ?_
          refine gz_goto hC 80 dX3_expectedAt_76 (by decide) ?_
          refine gz_lw [(0, .ref (ad 13)), (1, .int x1), (2, .int x2), (3, .int x3), (4, .int x4), (5, .ref (ad ks)), (6, .int x6), (7, .double 0), (9, .double (S mv la 0))] ⟨rfl, rfl, rfl, rfl, rfl, rfl, rfl, rfl, rfl, trivial⟩ ?_
          exact rest80 hl1 hp _ (by rw [hq72]; rfl)
  refine gz_iload hC dX3_expectedAt_0 rfl ?_
  refine gz_if_ne hC 12 dX3_expectedAt_2 (by decide) (fun c2 => ?_) (fun c2 => ?_)
  · have e2 := (hmz _ hx4).2 c2
    rw [e2] at hks0 how
    refine gz_aload_n hC dX3_expectedAt_12 rfl ?_
    refine gz_getR (j := 2) hC dX3_expectedAt_13 cf_X3 fl_X3_18 rfl rfl (by decide) ?_
    first | rw [show ad 14 = ad ks by rw [hks0]; rfl] | rw [show ad 16 = ad ks by rw [hks0]; rfl]
    refine gz_astore hC dX3_expectedAt_16 (by decide) ?_
    refine gz_iload hC dX3_expectedAt_18 rfl ?_
    refine gz_if_ne hC 27 dX3_expectedAt_20 (by decide) (fun c20 => ?_) (fun c20 => ?_)
    · have e20 := (hmz _ hx4).2 c20
      refine gz_iload_n hC dX3_expectedAt_27 rfl ?_
      first
        | exact absurd (e2.symm.trans e20) (by decide)
        | (refine gz_istore hC dX3_expectedAt_28 (by decide) ?_
           refine gz_lw [(0, .ref (ad 13)), (1, .int x1), (2, .int x2), (3, .int x3), (4, .int x4), (5, .ref (ad ks)), (6, .int x1)] ⟨rfl, rfl, rfl, rfl, rfl, rfl, rfl, trivial⟩ ?_
           exact rest x1 (by rw [hx1, how]; rfl))
        | (refine gz_istore hC dX3_expectedAt_28 (by decide) ?_
           refine gz_lw [(0, .ref (ad 13)), (1, .int x1), (2, .int x2), (3, .int x3), (4, .int x4), (5, .ref (ad ks)), (6, .int x2)] ⟨rfl, rfl, rfl, rfl, rfl, rfl, rfl, trivial⟩ ?_
           exact rest x2 (by rw [hx2, how]; rfl))
    · have e20 := (hmz _ hx4).1 c20
      refine gz_iload_n hC dX3_expectedAt_23 rfl ?_
      refine gz_goto hC 28 dX3_expectedAt_24 (by decide) ?_
      first
        | exact absurd (e2.symm.trans e20) (by decide)
        | (refine gz_istore hC dX3_expectedAt_28 (by decide) ?_
           refine gz_lw [(0, .ref (ad 13)), (1, .int x1), (2, .int x2), (3, .int x3), (4, .int x4), (5, .ref (ad ks)), (6, .int x1)] ⟨rfl, rfl, rfl, rfl, rfl, rfl, rfl, trivial⟩ ?_
           exact rest x1 (by rw [hx1, how]; rfl))
        | (refine gz_istore hC dX3_expectedAt_28 (by decide) ?_
           refine gz_lw [(0, .ref (ad 13)), (1, .int x1), (2, .int x2), (3, .int x3), (4, .int x4), (5, .ref (ad ks)), (6, .int x2)] ⟨rfl, rfl, rfl, rfl, rfl, rfl, rfl, trivial⟩ ?_
           exact rest x2 (by rw [hx2, how]; rfl))
  · have e2 := (hmz _ hx4).1 c2
    rw [e2] at hks0 how
    refine gz_aload_n hC dX3_expectedAt_5 rfl ?_
    refine gz_getR (j := 1) hC dX3_expectedAt_6 cf_X3 fl_X3_12 rfl rfl (by decide) ?_
    refine gz_goto hC 16 dX3_expectedAt_9 (by decide) ?_
    first | rw [show ad 14 = ad ks by rw [hks0]; rfl] | rw [show ad 16 = ad ks by rw [hks0]; rfl]
    refine gz_astore hC dX3_expectedAt_16 (by decide) ?_
    refine gz_iload hC dX3_expectedAt_18 rfl ?_
    refine gz_if_ne hC 27 dX3_expectedAt_20 (by decide) (fun c20 => ?_) (fun c20 => ?_)
    · have e20 := (hmz _ hx4).2 c20
      refine gz_iload_n hC dX3_expectedAt_27 rfl ?_
      first
        | exact absurd (e2.symm.trans e20) (by decide)
        | (refine gz_istore hC dX3_expectedAt_28 (by decide) ?_
           refine gz_lw [(0, .ref (ad 13)), (1, .int x1), (2, .int x2), (3, .int x3), (4, .int x4), (5, .ref (ad ks)), (6, .int x1)] ⟨rfl, rfl, rfl, rfl, rfl, rfl, rfl, trivial⟩ ?_
           exact rest x1 (by rw [hx1, how]; rfl))
        | (refine gz_istore hC dX3_expectedAt_28 (by decide) ?_
           refine gz_lw [(0, .ref (ad 13)), (1, .int x1), (2, .int x2), (3, .int x3), (4, .int x4), (5, .ref (ad ks)), (6, .int x2)] ⟨rfl, rfl, rfl, rfl, rfl, rfl, rfl, trivial⟩ ?_
           exact rest x2 (by rw [hx2, how]; rfl))
    · have e20 := (hmz _ hx4).1 c20
      refine gz_iload_n hC dX3_expectedAt_23 rfl ?_
      refine gz_goto hC 28 dX3_expectedAt_24 (by decide) ?_
      first
        | exact absurd (e2.symm.trans e20) (by decide)
        | (refine gz_istore hC dX3_expectedAt_28 (by decide) ?_
           refine gz_lw [(0, .ref (ad 13)), (1, .int x1), (2, .int x2), (3, .int x3), (4, .int x4), (5, .ref (ad ks)), (6, .int x1)] ⟨rfl, rfl, rfl, rfl, rfl, rfl, rfl, trivial⟩ ?_
           exact rest x1 (by rw [hx1, how]; rfl))
        | (refine gz_istore hC dX3_expectedAt_28 (by decide) ?_
           refine gz_lw [(0, .ref (ad 13)), (1, .int x1), (2, .int x2), (3, .int x3), (4, .int x4), (5, .ref (ad ks)), (6, .int x2)] ⟨rfl, rfl, rfl, rfl, rfl, rfl, rfl, trivial⟩ ?_
           exact rest x2 (by rw [hx2, how]; rfl))
end CT
