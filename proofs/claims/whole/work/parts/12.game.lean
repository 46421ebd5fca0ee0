/-! a round: dice that are drawn, moves, what is told of it -/
def dr_nx (x : Int32) : Int32 := (x * 1103515245 + 12345) &&& 2147483647
def dr_it : Nat → Int32 → Int32
  | 0, x => x
  | n + 1, x => dr_nx (dr_it n x)
def dr_p (F : Nat) (x : Int32) : Nat := x.toNatClampNeg / 65536 % F
/-- the pips that are drawn, from x on -/
def dr_r (F : Nat) (x : Int32) : Nat → Nat := fun i => dr_p F (dr_it (i + 1) x)
def fd_like (d F h : Nat) (c : Nat → Nat) : Nat → Bool
  | 0 => true
  | f + 1 => fd_like d F h c f && decide (tb_cnt (tb_rw d F h) d f = c f)
def fd_s (d F : Nat) (c : Nat → Nat) : Nat → Nat → Nat
  | 0, _ => 0
  | n + 1, h => cond (fd_like d F h c F) h (fd_s d F c n (h + 1))
def dr_h (d F : Nat) (x : Int32) : Nat := fd_s d F (tb_cnt (dr_r F x) d) (tb_n d F) 0
theorem fd_s_lt {d F : Nat} {c : Nat → Nat} : ∀ n h, fd_s d F c n h = 0 ∨ fd_s d F c n h < h + n
  | 0, h => Or.inl rfl
  | n + 1, h => by
    unfold fd_s
    cases fd_like d F h c F with
    | true => exact Or.inr (show h < h + (n + 1) by omega)
    | false =>
      rcases fd_s_lt (c := c) n (h + 1) with q | q
      · exact Or.inl q
      · exact Or.inr (show fd_s d F c n (h + 1) < h + (n + 1) by omega)
theorem dr_h_lt {d F : Nat} (hT : tb_ok d F) (x : Int32) : dr_h d F x < tb_n d F := by
  have T := (tb_facts hT).2.2.2.1
  rcases fd_s_lt (d := d) (F := F) (c := tb_cnt (dr_r F x) d) (tb_n d F) 0 with q | q
  · unfold dr_h; omega
  · unfold dr_h; omega
theorem dr_nx_of (x : Int32) : ∃ j : Nat, j < 2 ^ 31 ∧ dr_nx x = nI j := pk_andE _ 31 (by decide)
theorem dr_div {x : Int32} {j : Nat} (hj : j < 2 ^ 31) (h : x = nI j) : x / 65536 = nI (x.toNatClampNeg / 65536) := by
  rw [h, nI_clamp hj]
  exact pk_div hj (by decide) (by decide)
def xi_g (th : Bool) (g : Nat → Int32) (I : Nat → Nat → Int32) : Prop := I 23 3 = gz_b th ∧ (th = true → ∀ j, j < 6 → I 23 (4 + j) = g j) ∧ I 23 10 = g 6 ∧ I 23 11 = g 7
def gv (d0 d1 F : Nat) (th : Bool) (g : Nat → Int32) : Prop := th = true → (∃ a, a < tb_n d0 F ∧ g 0 = nI a) ∧ (∃ b, b < tb_n d1 F ∧ g 1 = nI b) ∧ (∃ la, la < (d0 + d1) * F + 1 ∧ g 3 = nI la - 1) ∧ (g 2 = 0 ∨ g 2 = 1 ∨ g 2 = -1)
def sp_gr (d0 d1 F : Nat) (seed : Int32) (g : Nat → Int32) : Nat → Int32 := fun j => match j with
  | 0 => nI (dr_h d0 F seed)
  | 1 => nI (dr_h d1 F (dr_it d0 seed))
  | 2 => 0
  | 3 => -1
  | 4 => 0
  | 5 => -1
  | j => g j
def sp_held (th : Bool) (g : Nat → Int32) (p : Int32) : Int32 := cond (gz_in p 0 1) (cond th (if p = 0 then g 0 else g 1) (-3)) (-2)
def sp_mgo (th : Bool) (g : Nat → Int32) (x : Int32) : Bool := (th && !decide (g 2 = -1)) && gz_mf (g 3) x
def sp_win (d0 d1 F : Nat) (w : Bool) (g : Nat → Int32) : Int32 := cond (tb_t d0 d1 F w (g 0).toNatClampNeg (g 1).toNatClampNeg (g 3).toNatClampNeg) (1 - g 2) (g 2)
def sp_mv (d0 d1 F : Nat) (w th : Bool) (g : Nat → Int32) (x : Int32) : Int32 := cond (sp_bon d0 d1 F x) (cond (sp_mgo th g x) (if x = -1 then sp_win d0 d1 F w g + 1 else 0) (-3)) (-2)
def sp_ge (win : Int32) (g : Nat → Int32) : Nat → Int32 := fun j => match j with
  | 2 => -1
  | 5 => win
  | 6 => if win = 0 then g 6 + 1 else g 6
  | 7 => if win = 0 then g 7 else g 7 + 1
  | j => g j
def sp_gb (x : Int32) (g : Nat → Int32) : Nat → Int32 := fun j => match j with
  | 2 => 1 - g 2
  | 3 => x
  | 4 => g 4 + 1
  | j => g j
def sp_mg (d0 d1 F : Nat) (w th : Bool) (g : Nat → Int32) (x : Int32) : Nat → Int32 := cond (sp_bon d0 d1 F x && sp_mgo th g x) (if x = -1 then sp_ge (sp_win d0 d1 F w g) g else sp_gb x g) g
def sp_about (th : Bool) (g : Nat → Int32) (x : Int32) : Int32 := cond (gz_in x 0 3) (cond th (g (2 + x.toNatClampNeg)) (-3)) (-2)
def sp_count (d0 d1 F : Nat) (w : Bool) (g : Nat → Int32) (x : Int32) : Int32 := if x = 0 then nI d0 else if x = 1 then nI d1 else if x = 2 then nI F else if x = 3 then gz_b w else if x = 4 then nI ((d0 + d1) * F) else if x = 5 then g 6 else if x = 6 then g 7 else -2
def dg_c (cf : Nat → Int32) : Nat → Int64 → Int64
  | 0, a => a
  | n + 1, a => 31 * dg_c cf n a + (cf n).toInt64
def dg_2 (wt : Nat → Int32) (d0 d1 F plan : Nat) : Nat → Int64 → Int64
  | 0, a => a
  | p + 1, a => dg_h wt plan (tb_d d0 d1 p) ((d0 + d1) * F) (tb_n (tb_d d0 d1 p) F) (dg_2 wt d0 d1 F plan p a)
def dg_4 (wt : Nat → Int32) (d0 d1 F : Nat) : Nat → Int64 → Int64
  | 0, a => a
  | plan + 1, a => dg_2 wt d0 d1 F plan 2 (dg_4 wt d0 d1 F plan a)
def sp_digest (d0 d1 F : Nat) (w : Bool) (wt : Nat → Int32) (th : Bool) (g : Nat → Int32) : Int64 :=
  cond th (31 * (31 * dg_c (fun k => g (2 + k)) 4 (dg_4 wt d0 d1 F 4 (dg_c (fun k => sp_count d0 d1 F w g (nI k)) 7 191)) + (g 0).toInt64) + (g 1).toInt64) (dg_4 wt d0 d1 F 4 (dg_c (fun k => sp_count d0 d1 F w g (nI k)) 7 191))
theorem lx_cup_ne {k : Nat} (h : lx_cup k) : k ≠ 23 ∧ k ≠ 24 ∧ k + 1 ≠ 23 ∧ k + 1 ≠ 24 ∧ k + 2 ≠ 23 ∧ k + 2 ≠ 24 := by
  obtain ⟨h0, h1, h2, h3⟩ := h
  refine ⟨?_, ?_, ?_, ?_, ?_, ?_⟩ <;> intro e
  · subst e; cases h0
  · subst e; cases h0
  · obtain rfl : k = 22 := by omega
    cases h0
  · obtain rfl : k = 23 := by omega
    cases h0
  · obtain rfl : k = 21 := by omega
    cases h0
  · obtain rfl : k = 22 := by omega
    cases h0
section CT
variable {l : Launch} {D : va_G} {ad : Nat → Nat} {cy : Nat → ClassId}
set_option maxHeartbeats 4000000 in
set_option maxRecDepth 100000 in
theorem ct_X1_isLike (hJ : gz_inj ad lx_lay) (I : Nat → Nat → Int32) (G : Nat → Nat → UInt64) (k : Nat) (hK : lx_cup k) (d F : Nat) (hT : tb_ok d F) (hc : xi_cup k d F I) (cn : Nat → Nat) (hcn : ∀ f, f < 4 → I 24 f = nI (cn f)) (hcb : ∀ f, f < 4 → cn f ≤ 3) (h : Nat) (x1 : Int32) (hx1 : x1 = nI h) (hh : h < tb_n d F) : gz_Ct l D ad cy lx_lay yX1_isLike cX1_isLike 4 (some .boolean) 2 [.ref (ad k), .int x1, .ref (ad 24)] (I, G) (fun v M1 => v = some (.int (gz_b (fd_like d F h cn F))) ∧ M1 = (I, G)) := by
  obtain ⟨T1, T2, T3, T4, T5, T6, T7, T8, T9⟩ := tb_facts hT
  refine gz_met (by decide +kernel) hJ (Nat.le_of_ble_eq_true rfl) ?_
  intro p e s m args below meth c hC
  refine gz_iconst hC (0) dX1_isLike_0 (by decide) ?_
  refine gz_istore_n hC dX1_isLike_1 (by decide) ?_
  have lp : ∀ (n f : Nat) (z : Int32) (hi : f + n = F) (hz : z = nI f) (hlk : fd_like d F h cn f = true), gz_W p l e (gz_rm 2) s m args below meth c D ad cy lx_lay 4 (MQ below (gz_Q D ad cy lx_lay (fun v M1 => v = some (.int (gz_b (fd_like d F h cn F))) ∧ M1 = (I, G))) args s 0 0 (gz_A ad lx_lay)) (I, G) 2 [(0, .ref (ad k)), (1, .int x1), (2, .ref (ad 24)), (3, .int z)] [] := by
    intro n
    induction n with
    | zero =>
      intro f z hi hz hlk
      refine gz_iload_n hC dX1_isLike_2 rfl ?_
      refine gz_aload_n hC dX1_isLike_3 rfl ?_
      refine gz_getI (j := 4) hC dX1_isLike_4 cf_X1 fl_X1_25 hK.1 rfl (by decide) ?_
      refine gz_icmp_ge hC 32 dX1_isLike_7 (by decide) (fun c7 => ?_) (fun c7 => ?_)
      · refine gz_iconst hC (1) dX1_isLike_32 (by decide) ?_
        exact gz_zret rfl hC dX1_isLike_33 ⟨gz_v (by have e : f = F := (by omega); rw [← e] at hlk ⊢; rw [hlk]; rfl), rfl⟩
      · exact absurd (gz_ile hc.2.1 hz (by omega) (by omega)) c7
    | succ n ih =>
      intro f z hi hz hlk
      refine gz_iload_n hC dX1_isLike_2 rfl ?_
      refine gz_aload_n hC dX1_isLike_3 rfl ?_
      refine gz_getI (j := 4) hC dX1_isLike_4 cf_X1 fl_X1_25 hK.1 rfl (by decide) ?_
      refine gz_icmp_ge hC 32 dX1_isLike_7 (by decide) (fun c7 => ?_) (fun c7 => ?_)
      · exact absurd c7 (gz_inle hc.2.1 hz (by omega) (by omega))
      · refine gz_aload_n hC dX1_isLike_10 rfl ?_
        refine gz_iload_n hC dX1_isLike_11 rfl ?_
        refine gz_iload_n hC dX1_isLike_12 rfl ?_
        refine gz_callV2 hC dX1_isLike_13 ml_X1_61 hK.1 rfl (by decide) (by decide) (Nat.le_of_ble_eq_true rfl) (ct_X1_pipsOf hJ _ _ k hK h f _ _ hx1 hz (by omega) (by omega)) (fun v13 M13 hp13 => ?_)
        obtain ⟨rfl, rfl⟩ := hp13
        rw [hc.2.2.2.1 h hh f (by omega)]
        refine gz_aload_n hC dX1_isLike_16 rfl ?_
        refine gz_iload_n hC dX1_isLike_17 rfl ?_
        refine gz_callSN2 hC dX1_isLike_18 ml_X1_45 (by decide) (by decide) (Nat.le_of_ble_eq_true rfl) (ct_X7_at hJ _ _ 24 4 f rfl (by omega) _ hz (by omega)) (fun v18 M18 hp18 => ?_)
        obtain ⟨rfl, rfl⟩ := hp18
        rw [hcn f (by omega)]
        have b1 := tb_cnt_le (tb_rw d F h) f d
        have b2 := hcb f (by omega)
        refine gz_icmp_eq hC 26 dX1_isLike_21 (by decide) (fun c21 => ?_) (fun c21 => ?_)
        · have heq : tb_cnt (tb_rw d F h) d f = cn f := (nI_eq (by omega) (by omega)).mp c21
          refine gz_iinc hC (1) dX1_isLike_26 rfl (by decide) (by decide) ?_
          refine gz_goto hC 2 dX1_isLike_29 (by decide) ?_
          refine gz_lw [(0, .ref (ad k)), (1, .int x1), (2, .ref (ad 24)), (3, .int (z + 1))] ⟨rfl, rfl, rfl, rfl, trivial⟩ ?_
          exact ih (f + 1) _ (by omega) (gz_i1 hz) (by show (fd_like d F h cn f && decide _) = true; rw [hlk, decide_eq_true heq]; rfl)
        · have hne : ¬ tb_cnt (tb_rw d F h) d f = cn f := fun q => c21 (by rw [q])
          have hno : ∀ q, f < q → fd_like d F h cn q = false := by
            intro q
            induction q with
            | zero => intro hq; omega
            | succ q ihq =>
              intro hq
              show (fd_like d F h cn q && decide (tb_cnt (tb_rw d F h) d q = cn q)) = false
              rcases Nat.lt_or_ge f q with e | e
              · rw [ihq e]; rfl
              · rw [show q = f by omega, decide_eq_false hne, Bool.and_false]
          refine gz_iconst hC (0) dX1_isLike_24 (by decide) ?_
          exact gz_zret rfl hC dX1_isLike_25 ⟨gz_v (by rw [hno F (by omega)]; rfl), rfl⟩
  exact gz_lw [(0, .ref (ad k)), (1, .int x1), (2, .ref (ad 24)), (3, .int 0)] ⟨rfl, rfl, rfl, rfl, trivial⟩ (lp F 0 0 (by omega) rfl rfl)
  -- places not laid: [3, 4, 7, 10, 11, 12, 13, 16, 17, 18, 21, 24, 25, 26, 29, 32, 33]
set_option maxHeartbeats 4000000 in
set_option maxRecDepth 100000 in
theorem ct_X1_find (hJ : gz_inj ad lx_lay) (I : Nat → Nat → Int32) (G : Nat → Nat → UInt64) (k : Nat) (hK : lx_cup k) (d F : Nat) (hT : tb_ok d F) (hc : xi_cup k d F I) (cn : Nat → Nat) (hcn : ∀ f, f < 4 → I 24 f = nI (cn f)) (hcb : ∀ f, f < 4 → cn f ≤ 3) : gz_Ct l D ad cy lx_lay yX1_find cX1_find 3 (some .int) 3 [.ref (ad k), .ref (ad 24)] (I, G) (fun v M1 => v = some (.int (nI (fd_s d F cn (tb_n d F) 0))) ∧ M1 = (I, G)) := by
  obtain ⟨T1, T2, T3, T4, T5, T6, T7, T8, T9⟩ := tb_facts hT
  refine gz_met (by decide +kernel) hJ (Nat.le_of_ble_eq_true rfl) ?_
  intro p e s m args below meth c hC
  refine gz_iconst hC (0) dX1_find_0 (by decide) ?_
  refine gz_istore_n hC dX1_find_1 (by decide) ?_
  have lp : ∀ (n h : Nat) (z : Int32) (hi : h + n = tb_n d F) (hz : z = nI h) (hst : fd_s d F cn (tb_n d F) 0 = fd_s d F cn n h), gz_W p l e (gz_rm 3) s m args below meth c D ad cy lx_lay 3 (MQ below (gz_Q D ad cy lx_lay (fun v M1 => v = some (.int (nI (fd_s d F cn (tb_n d F) 0))) ∧ M1 = (I, G))) args s 0 0 (gz_A ad lx_lay)) (I, G) 2 [(0, .ref (ad k)), (1, .ref (ad 24)), (2, .int z)] [] := by
    intro n
    induction n with
    | zero =>
      intro h z hi hz hst
      refine gz_iload_n hC dX1_find_2 rfl ?_
      refine gz_aload_n hC dX1_find_3 rfl ?_
      refine gz_getI (j := 5) hC dX1_find_4 cf_X1 fl_X1_28 hK.1 rfl (by decide) ?_
      refine gz_icmp_ge hC 27 dX1_find_7 (by decide) (fun c7 => ?_) (fun c7 => ?_)
      · refine gz_iconst hC (0) dX1_find_27 (by decide) ?_
        exact gz_iret hC dX1_find_28 ⟨gz_v (by rw [hst]; rfl), rfl⟩
      · exact absurd (gz_ile hc.2.2.1 hz (by omega) (by omega)) c7
    | succ n ih =>
      intro h z hi hz hst
      refine gz_iload_n hC dX1_find_2 rfl ?_
      refine gz_aload_n hC dX1_find_3 rfl ?_
      refine gz_getI (j := 5) hC dX1_find_4 cf_X1 fl_X1_28 hK.1 rfl (by decide) ?_
      refine gz_icmp_ge hC 27 dX1_find_7 (by decide) (fun c7 => ?_) (fun c7 => ?_)
      · exact absurd c7 (gz_inle hc.2.2.1 hz (by omega) (by omega))
      · refine gz_aload_n hC dX1_find_10 rfl ?_
        refine gz_iload_n hC dX1_find_11 rfl ?_
        refine gz_aload_n hC dX1_find_12 rfl ?_
        refine gz_callV2 hC dX1_find_13 ml_X1_67 hK.1 rfl (by decide) (by decide) (Nat.le_of_ble_eq_true rfl) (ct_X1_isLike hJ _ _ k hK d F hT hc cn hcn hcb h _ hz (by omega)) (fun v13 M13 hp13 => ?_)
        obtain ⟨rfl, rfl⟩ := hp13
        refine gz_if_eq hC 21 dX1_find_16 (by decide) (fun c16 => ?_) (fun c16 => ?_)
        · have hb := gz_b0 c16
          refine gz_iinc hC (1) dX1_find_21 rfl (by decide) (by decide) ?_
          refine gz_goto hC 2 dX1_find_24 (by decide) ?_
          refine gz_lw [(0, .ref (ad k)), (1, .ref (ad 24)), (2, .int (z + 1))] ⟨rfl, rfl, rfl, trivial⟩ ?_
          exact ih (h + 1) _ (by omega) (gz_i1 hz) (by rw [hst, fd_s, hb]; rfl)
        · have hb := gz_b1 c16
          refine gz_iload_n hC dX1_find_19 rfl ?_
          exact gz_iret hC dX1_find_20 ⟨gz_v (by rw [hst, fd_s, hb, hz]; rfl), rfl⟩
  exact gz_lw [(0, .ref (ad k)), (1, .ref (ad 24)), (2, .int 0)] ⟨rfl, rfl, rfl, trivial⟩ (lp (tb_n d F) 0 0 (by omega) rfl rfl)
  -- places not laid: [3, 4, 7, 10, 11, 12, 13, 16, 19, 20, 21, 24, 27, 28]
set_option maxHeartbeats 4000000 in
set_option maxRecDepth 100000 in
theorem ct_X2_draw (hJ : gz_inj ad lx_lay) (I : Nat → Nat → Int32) (G : Nat → Nat → UInt64) (k : Nat) (hK : lx_cup k) (d F : Nat) (hT : tb_ok d F) (hc : xi_cup k d F I) : gz_Ct l D ad cy lx_lay yX2_draw cX2_draw 4 (some .int) 4 [.ref (ad 23), .ref (ad k)] (I, G) (fun v M1 => ∃ I1, v = some (.int (nI (dr_h d F (I 23 2)))) ∧ M1 = (I1, G) ∧ I1 23 2 = dr_it d (I 23 2) ∧ (∀ j, j ≠ 2 → I1 23 j = I 23 j) ∧ ∀ o, o ≠ 23 → o ≠ 24 → I1 o = I o) := by
  obtain ⟨T1, T2, T3, T4, T5, T6, T7, T8, T9⟩ := tb_facts hT
  refine gz_met (by decide +kernel) hJ (Nat.le_of_ble_eq_true rfl) ?_
  intro p e s m args below meth c hC
  refine gz_aload_n hC dX2_draw_0 rfl ?_
  refine gz_getR (j := 1) hC dX2_draw_1 cf_X2 fl_X2_9 rfl rfl (by decide) ?_
  refine gz_iconst hC (0) dX2_draw_4 (by decide) ?_
  refine gz_callS2 hC dX2_draw_5 ml_X2_55 (by decide) (by decide) (Nat.le_of_ble_eq_true rfl) (ct_J7_fill_53178 hJ _ _ 24 4 rfl (by decide) _) (fun v5 M5 hp5 => ?_)
  obtain ⟨rfl, rfl⟩ := hp5
  refine gz_iconst hC (0) dX2_draw_8 (by decide) ?_
  refine gz_istore_n hC dX2_draw_9 (by decide) ?_
  have lp : ∀ (n i : Nat) (J : Nat → Nat → Int32) (z : Int32) (hi : i + n = d) (hz : z = nI i) (hx : J 23 2 = dr_it i (I 23 2)) (ht : ∀ f, f < 4 → J 24 f = nI (tb_cnt (dr_r F (I 23 2)) i f)) (hg : ∀ j, j ≠ 2 → J 23 j = I 23 j) (hf : ∀ o, o ≠ 23 → o ≠ 24 → J o = I o), gz_W p l e (gz_rm 4) s m args below meth c D ad cy lx_lay 4 (MQ below (gz_Q D ad cy lx_lay (fun v M1 => ∃ I1, v = some (.int (nI (dr_h d F (I 23 2)))) ∧ M1 = (I1, G) ∧ I1 23 2 = dr_it d (I 23 2) ∧ (∀ j, j ≠ 2 → I1 23 j = I 23 j) ∧ ∀ o, o ≠ 23 → o ≠ 24 → I1 o = I o)) args s 0 0 (gz_A ad lx_lay)) (J, G) 10 [(0, .ref (ad 23)), (1, .ref (ad k)), (2, .int z)] [] := by
    intro n
    induction n with
    | zero =>
      intro i J z hi hz hx ht hg hf
      refine gz_iload_n hC dX2_draw_10 rfl ?_
      refine gz_aload_n hC dX2_draw_11 rfl ?_
      refine gz_getIN (j := 3) hC dX2_draw_12 cf_X1 fl_X2_61 hK.1 rfl (by decide) ?_
      refine gz_icmp_ge hC 75 dX2_draw_15 (by decide) (fun c15 => ?_) (fun c15 => ?_)
      · refine gz_aload_n hC dX2_draw_75 rfl ?_
        refine gz_aload_n hC dX2_draw_76 rfl ?_
        refine gz_getR (j := 1) hC dX2_draw_77 cf_X2 fl_X2_9 rfl rfl (by decide) ?_
        refine gz_callV1 hC dX2_draw_80 ml_X2_84 hK.1 rfl (by decide) (by decide) (Nat.le_of_ble_eq_true rfl) (ct_X1_find hJ _ _ k hK d F hT (xi_cup_fr hc (hf k (lx_cup_ne hK).1 (lx_cup_ne hK).2.1) (hf (k + 1) (lx_cup_ne hK).2.2.1 (lx_cup_ne hK).2.2.2.1) (hf (k + 2) (lx_cup_ne hK).2.2.2.2.1 (lx_cup_ne hK).2.2.2.2.2)) (tb_cnt (dr_r F (I 23 2)) d) (fun f hf4 => by rw [ht f hf4, show i = d by omega]) (fun f hf4 => by have := tb_cnt_le (dr_r F (I 23 2)) f d; omega)) (fun v80 M80 hp80 => ?_)
        obtain ⟨rfl, rfl⟩ := hp80
        exact gz_iret hC dX2_draw_83 ⟨J, rfl, rfl, by rw [hx, show i = d by omega], hg, hf⟩
      · exact absurd (gz_ile (by rw [hf k (lx_cup_ne hK).1 (lx_cup_ne hK).2.1]; exact hc.1) hz (by omega) (by omega)) c15
    | succ n ih =>
      intro i J z hi hz hx ht hg hf
      refine gz_iload_n hC dX2_draw_10 rfl ?_
      refine gz_aload_n hC dX2_draw_11 rfl ?_
      refine gz_getIN (j := 3) hC dX2_draw_12 cf_X1 fl_X2_61 hK.1 rfl (by decide) ?_
      refine gz_icmp_ge hC 75 dX2_draw_15 (by decide) (fun c15 => ?_) (fun c15 => ?_)
      · exact absurd c15 (gz_inle (by rw [hf k (lx_cup_ne hK).1 (lx_cup_ne hK).2.1]; exact hc.1) hz (by omega) (by omega))
      · refine gz_aload_n hC dX2_draw_18 rfl ?_
        refine gz_aload_n hC dX2_draw_19 rfl ?_
        refine gz_getI (j := 2) hC dX2_draw_20 cf_X2 fl_X2_33 rfl rfl (by decide) ?_
        refine gz_ldc hC dX2_draw_23 kc_X2_66 ?_
        refine gz_imul hC dX2_draw_25 ?_
        refine gz_sipush hC (12345) dX2_draw_26 (by decide) ?_
        refine gz_iadd hC dX2_draw_29 ?_
        refine gz_ldc hC dX2_draw_30 kc_X2_67 ?_
        refine gz_iand hC dX2_draw_32 ?_
        rw [hx, show (dr_it i (I 23 2) * 1103515245 + 12345) &&& 2147483647 = dr_it (i + 1) (I 23 2) from rfl]
        refine gz_put (j := 2) hC dX2_draw_33 cf_X2 fl_X2_33 rfl rfl (by decide) rfl rfl rfl ?_
        obtain ⟨J2, hJ2⟩ : ∃ J2, J2 = gz_up J 23 2 (dr_it (i + 1) (I 23 2)) := ⟨_, rfl⟩
        rw [← hJ2]
        have kx : J2 23 2 = dr_it (i + 1) (I 23 2) := by rw [hJ2, gz_up_self]
        have kg : ∀ j, j ≠ 2 → J2 23 j = I 23 j := fun j hj => by rw [hJ2, gz_up_oth hj]; exact hg j hj
        have kf : ∀ o, o ≠ 23 → J2 o = J o := fun o ho => by rw [hJ2, gz_up_ne ho]
        obtain ⟨q, hq, hq2⟩ := dr_nx_of (dr_it i (I 23 2))
        have hri : dr_r F (I 23 2) i < F := Nat.mod_lt _ (by omega)
        refine gz_aload_n hC dX2_draw_36 rfl ?_
        refine gz_getI (j := 2) hC dX2_draw_37 cf_X2 fl_X2_33 rfl rfl (by decide) ?_
        refine gz_ldc hC dX2_draw_40 kc_X2_68 ?_
        rw [kx]
        refine gz_idiv hC dX2_draw_42 (by decide) ?_
        refine gz_aload_n hC dX2_draw_43 rfl ?_
        refine gz_getIN (j := 4) hC dX2_draw_44 cf_X1 fl_X2_69 hK.1 rfl (by decide) ?_
        refine gz_callSN2 hC dX2_draw_47 ml_X2_72 (by decide) (by decide) (Nat.le_of_ble_eq_true rfl) (ct_X7_leftOver hJ _ _ _ _ ((dr_it (i + 1) (I 23 2)).toNatClampNeg / 65536) F (by exact dr_div hq hq2) (by rw [kf k (lx_cup_ne hK).1, hf k (lx_cup_ne hK).1 (lx_cup_ne hK).2.1]; exact hc.2.1) (by have e : (dr_it (i + 1) (I 23 2)).toNatClampNeg = q := (by rw [show dr_it (i + 1) (I 23 2) = nI q from hq2]; exact nI_clamp hq); have := Nat.div_le_self q 65536; rw [e]; omega) (by omega) (by omega)) (fun v47 M47 hp47 => ?_)
        obtain ⟨rfl, rfl⟩ := hp47
        rw [show (dr_it (i + 1) (I 23 2)).toNatClampNeg / 65536 % F = dr_r F (I 23 2) i from rfl]
        refine gz_istore_n hC dX2_draw_50 (by decide) ?_
        refine gz_aload_n hC dX2_draw_51 rfl ?_
        refine gz_getR (j := 1) hC dX2_draw_52 cf_X2 fl_X2_9 rfl rfl (by decide) ?_
        refine gz_iload_n hC dX2_draw_55 rfl ?_
        refine gz_aload_n hC dX2_draw_56 rfl ?_
        refine gz_getR (j := 1) hC dX2_draw_57 cf_X2 fl_X2_9 rfl rfl (by decide) ?_
        refine gz_iload_n hC dX2_draw_60 rfl ?_
        refine gz_callSN2 hC dX2_draw_61 ml_X2_76 (by decide) (by decide) (Nat.le_of_ble_eq_true rfl) (ct_X7_at hJ _ _ 24 4 (dr_r F (I 23 2) i) rfl (by omega) _ rfl (by omega)) (fun v61 M61 hp61 => ?_)
        obtain ⟨rfl, rfl⟩ := hp61
        rw [kf 24 (by decide), ht _ (by omega)]
        refine gz_iconst hC (1) dX2_draw_64 (by decide) ?_
        refine gz_iadd hC dX2_draw_65 ?_
        rw [nI_1]
        refine gz_callSN3 hC dX2_draw_66 ml_X2_80 (by decide) (by decide) (Nat.le_of_ble_eq_true rfl) (ct_X7_put hJ _ _ 24 4 (dr_r F (I 23 2) i) rfl (by omega) _ _ rfl (by omega)) (fun v66 M66 hp66 => ?_)
        obtain ⟨rfl, rfl⟩ := hp66
        refine gz_iinc hC (1) dX2_draw_69 rfl (by decide) (by decide) ?_
        refine gz_goto hC 10 dX2_draw_72 (by decide) ?_
        refine gz_lw [(0, .ref (ad 23)), (1, .ref (ad k)), (2, .int (z + 1))] ⟨rfl, rfl, rfl, trivial⟩ ?_
        exact ih (i + 1) _ _ (by omega) (gz_i1 hz) ((gz_up_at (by decide)).trans kx) (fun f hf4 => by
          show gz_up J2 24 (dr_r F (I 23 2) i) _ 24 f = nI (tb_cnt (dr_r F (I 23 2)) i f + (if f = dr_r F (I 23 2) i then 1 else 0))
          by_cases e : f = dr_r F (I 23 2) i
          · rw [if_pos e, e, gz_up_self]
          · rw [if_neg e, gz_up_oth e, kf 24 (by decide)]; exact ht f hf4) (fun j hj => (gz_up_at (by decide)).trans (kg j hj)) (fun o h1 h2 => (gz_up_ne h2).trans ((kf o h1).trans (hf o h1 h2)))
  exact gz_lw [(0, .ref (ad 23)), (1, .ref (ad k)), (2, .int 0)] ⟨rfl, rfl, rfl, trivial⟩ (lp d 0 _ 0 (by omega) rfl (gz_fi_at (by decide)) (fun f hf4 => gz_fi_in hf4) (fun j _ => gz_fi_at (by decide)) (fun o _ h2 => gz_fi_ne h2))
  -- places not laid: [11, 12, 15, 18, 19, 20, 23, 25, 26, 29, 30, 32, 33, 36, 37, 40, 42, 43, 44, 47, 50, 51, 52, 55, 56, 57, 60, 61, 64, 65, 66, 69, 72, 75, 76, 77, 80, 83]
set_option maxHeartbeats 4000000 in
set_option maxRecDepth 100000 in
theorem ct_X2_begin (hJ : gz_inj ad lx_lay) (I : Nat → Nat → Int32) (G : Nat → Nat → UInt64) (d0 d1 F : Nat) (w : Bool) (hO : cf_ok d0 d1 F) (hX : xi_tab d0 d1 F w I) (seed : Int32) : gz_Ct l D ad cy lx_lay yX2_begin cX2_begin 2 none 5 [.ref (ad 23), .int seed] (I, G) (fun v M1 => ∃ I1, v = none ∧ M1 = (I1, G) ∧ I1 23 3 = 1 ∧ I1 23 4 = nI (dr_h d0 F seed) ∧ I1 23 5 = nI (dr_h d1 F (dr_it d0 seed)) ∧ I1 23 6 = 0 ∧ I1 23 7 = -1 ∧ I1 23 8 = 0 ∧ I1 23 9 = -1 ∧ I1 23 10 = I 23 10 ∧ I1 23 11 = I 23 11 ∧ ∀ o, o ≠ 23 → o ≠ 24 → I1 o = I o) := by
  refine gz_met (by decide +kernel) hJ (Nat.le_of_ble_eq_true rfl) ?_
  intro p e s m args below meth c hC
  refine gz_aload_n hC dX2_begin_0 rfl ?_
  refine gz_iload_n hC dX2_begin_1 rfl ?_
  refine gz_put (j := 2) hC dX2_begin_2 cf_X2 fl_X2_33 rfl rfl (by decide) rfl rfl rfl ?_
  obtain ⟨J0, hJ0⟩ : ∃ J, J = gz_up I 23 2 seed := ⟨_, rfl⟩
  rw [← hJ0]
  have k0 : J0 23 2 = seed := by rw [hJ0, gz_up_self]
  have k1 : ∀ j, j ≠ 2 → J0 23 j = I 23 j := fun j hj => by rw [hJ0, gz_up_oth hj]
  have k2 : ∀ o, o ≠ 23 → o ≠ 24 → J0 o = I o := fun o ho _ => by rw [hJ0, gz_up_ne ho]
  refine gz_aload_n hC dX2_begin_5 rfl ?_
  refine gz_aload_n hC dX2_begin_6 rfl ?_
  refine gz_aload_n hC dX2_begin_7 rfl ?_
  refine gz_getR (j := 0) hC dX2_begin_8 cf_X2 fl_X2_25 rfl rfl (by decide) ?_
  refine gz_iconst hC (0) dX2_begin_11 (by decide) ?_
  refine gz_callV1 hC dX2_begin_12 ml_X2_36 rfl rfl (by decide) (by decide) (Nat.le_of_ble_eq_true rfl) (ct_X6_cup hJ _ _ _ 3 (Or.inl ⟨rfl, rfl⟩)) (fun v12 M12 hp12 => ?_)
  obtain ⟨rfl, rfl⟩ := hp12
  refine gz_callV1 hC dX2_begin_15 ml_X2_42 rfl rfl (by decide) (by decide) (Nat.le_of_ble_eq_true rfl) (ct_X2_draw hJ _ _ 3 lx_cup3 d0 F hO.1 (xi_cup_fr hX.2.2.2.1 (k2 3 (by decide) (by decide)) (k2 4 (by decide) (by decide)) (k2 5 (by decide) (by decide)))) (fun v15 M15 hp15 => ?_)
  obtain ⟨J1, rfl, rfl, m1, m2, m3⟩ := hp15
  rw [k0]
  rw [k0] at m1
  refine gz_put (j := 4) hC dX2_begin_18 cf_X2 fl_X2_46 rfl rfl (by decide) rfl rfl rfl ?_
  obtain ⟨J2, hJ2⟩ : ∃ J, J = gz_up J1 23 4 (nI (dr_h d0 F seed)) := ⟨_, rfl⟩
  rw [← hJ2]
  have n0 : J2 23 2 = dr_it d0 seed := by rw [hJ2, gz_up_oth (by decide)]; exact m1
  have n4 : J2 23 4 = nI (dr_h d0 F seed) := by rw [hJ2, gz_up_self]
  have n1 : ∀ j, j ≠ 2 → j ≠ 4 → J2 23 j = I 23 j := fun j h1 h2 => by rw [hJ2, gz_up_oth h2, m2 j h1, k1 j h1]
  have n2 : ∀ o, o ≠ 23 → o ≠ 24 → J2 o = I o := fun o h1 h2 => by rw [hJ2, gz_up_ne h1, m3 o h1 h2, k2 o h1 h2]
  refine gz_aload_n hC dX2_begin_21 rfl ?_
  refine gz_aload_n hC dX2_begin_22 rfl ?_
  refine gz_aload_n hC dX2_begin_23 rfl ?_
  refine gz_getR (j := 0) hC dX2_begin_24 cf_X2 fl_X2_25 rfl rfl (by decide) ?_
  refine gz_iconst hC (1) dX2_begin_27 (by decide) ?_
  refine gz_callV1 hC dX2_begin_28 ml_X2_36 rfl rfl (by decide) (by decide) (Nat.le_of_ble_eq_true rfl) (ct_X6_cup hJ _ _ _ 7 (Or.inr ⟨by decide, rfl⟩)) (fun v28 M28 hp28 => ?_)
  obtain ⟨rfl, rfl⟩ := hp28
  refine gz_callV1 hC dX2_begin_31 ml_X2_42 rfl rfl (by decide) (by decide) (Nat.le_of_ble_eq_true rfl) (ct_X2_draw hJ _ _ 7 lx_cup7 d1 F hO.2.1 (xi_cup_fr hX.2.2.2.2.1 (n2 7 (by decide) (by decide)) (n2 8 (by decide) (by decide)) (n2 9 (by decide) (by decide)))) (fun v31 M31 hp31 => ?_)
  obtain ⟨J3, rfl, rfl, p1, p2, p3⟩ := hp31
  rw [n0]
  refine gz_put (j := 5) hC dX2_begin_34 cf_X2 fl_X2_49 rfl rfl (by decide) rfl rfl rfl ?_
  refine gz_aload_n hC dX2_begin_37 rfl ?_
  refine gz_iconst hC (1) dX2_begin_38 (by decide) ?_
  refine gz_put (j := 3) hC dX2_begin_39 cf_X2 fl_X2_29 rfl rfl (by decide) rfl rfl rfl ?_
  refine gz_aload_n hC dX2_begin_42 rfl ?_
  refine gz_iconst hC (0) dX2_begin_43 (by decide) ?_
  refine gz_put (j := 6) hC dX2_begin_44 cf_X2 fl_X2_15 rfl rfl (by decide) rfl rfl rfl ?_
  refine gz_aload_n hC dX2_begin_47 rfl ?_
  refine gz_iconst hC (-1) dX2_begin_48 (by decide) ?_
  refine gz_put (j := 7) hC dX2_begin_49 cf_X2 fl_X2_19 rfl rfl (by decide) rfl rfl rfl ?_
  refine gz_aload_n hC dX2_begin_52 rfl ?_
  refine gz_iconst hC (0) dX2_begin_53 (by decide) ?_
  refine gz_put (j := 8) hC dX2_begin_54 cf_X2 fl_X2_52 rfl rfl (by decide) rfl rfl rfl ?_
  refine gz_aload_n hC dX2_begin_57 rfl ?_
  refine gz_iconst hC (-1) dX2_begin_58 (by decide) ?_
  refine gz_put (j := 9) hC dX2_begin_59 cf_X2 fl_X2_22 rfl rfl (by decide) rfl rfl rfl ?_
  exact gz_vret hC dX2_begin_62 ⟨_, rfl, rfl, by rw [gz_up_oth (by decide), gz_up_oth (by decide), gz_up_oth (by decide), gz_up_oth (by decide), gz_up_self], by rw [gz_up_oth (by decide), gz_up_oth (by decide), gz_up_oth (by decide), gz_up_oth (by decide), gz_up_oth (by decide), gz_up_oth (by decide), p2 4 (by decide)]; exact n4, by rw [gz_up_oth (by decide), gz_up_oth (by decide), gz_up_oth (by decide), gz_up_oth (by decide), gz_up_oth (by decide), gz_up_self], by rw [gz_up_oth (by decide), gz_up_oth (by decide), gz_up_oth (by decide), gz_up_self], by rw [gz_up_oth (by decide), gz_up_oth (by decide), gz_up_self], by rw [gz_up_oth (by decide), gz_up_self], gz_up_self, by rw [gz_up_oth (by decide), gz_up_oth (by decide), gz_up_oth (by decide), gz_up_oth (by decide), gz_up_oth (by decide), gz_up_oth (by decide), p2 10 (by decide)]; exact n1 10 (by decide) (by decide), by rw [gz_up_oth (by decide), gz_up_oth (by decide), gz_up_oth (by decide), gz_up_oth (by decide), gz_up_oth (by decide), gz_up_oth (by decide), p2 11 (by decide)]; exact n1 11 (by decide) (by decide), fun o h1 h2 => by rw [gz_up_ne h1, gz_up_ne h1, gz_up_ne h1, gz_up_ne h1, gz_up_ne h1, gz_up_ne h1, p3 o h1 h2, n2 o h1 h2]⟩
set_option maxHeartbeats 4000000 in
set_option maxRecDepth 100000 in
theorem ct_X2_handOf (hJ : gz_inj ad lx_lay) (I : Nat → Nat → Int32) (G : Nat → Nat → UInt64) (x1 : Int32) : gz_Ct l D ad cy lx_lay yX2_handOf cX2_handOf 2 (some .int) 0 [.ref (ad 23), .int x1] (I, G) (fun v M1 => v = some (.int (if x1 = 0 then I 23 4 else I 23 5)) ∧ M1 = (I, G)) := by
  refine gz_met (by decide +kernel) hJ (Nat.le_of_ble_eq_true rfl) ?_
  intro p e s m args below meth c hC
  refine gz_iload_n hC dX2_handOf_0 rfl ?_
  refine gz_if_ne hC 11 dX2_handOf_1 (by decide) (fun c1 => ?_) (fun c1 => ?_)
  · refine gz_aload_n hC dX2_handOf_11 rfl ?_
    refine gz_getI (j := 5) hC dX2_handOf_12 cf_X2 fl_X2_49 rfl rfl (by decide) ?_
    exact gz_iret hC dX2_handOf_15 ⟨gz_v (by first | rw [if_pos c1] | rw [if_neg c1]), rfl⟩
  · refine gz_aload_n hC dX2_handOf_4 rfl ?_
    refine gz_getI (j := 4) hC dX2_handOf_5 cf_X2 fl_X2_46 rfl rfl (by decide) ?_
    refine gz_goto hC 15 dX2_handOf_8 (by decide) ?_
    exact gz_iret hC dX2_handOf_15 ⟨gz_v (by first | rw [if_pos c1] | rw [if_neg c1]), rfl⟩
set_option maxHeartbeats 4000000 in
set_option maxRecDepth 100000 in
theorem ct_X2_goesOn (hJ : gz_inj ad lx_lay) (I : Nat → Nat → Int32) (G : Nat → Nat → UInt64) (th : Bool) (ht : I 23 3 = gz_b th) : gz_Ct l D ad cy lx_lay yX2_goesOn cX2_goesOn 1 (some .boolean) 0 [.ref (ad 23)] (I, G) (fun v M1 => v = some (.int (gz_b (th && !decide (I 23 6 = -1)))) ∧ M1 = (I, G)) := by
  refine gz_met (by decide +kernel) hJ (Nat.le_of_ble_eq_true rfl) ?_
  intro p e s m args below meth c hC
  refine gz_aload_n hC dX2_goesOn_0 rfl ?_
  refine gz_getI (j := 3) hC dX2_goesOn_1 cf_X2 fl_X2_29 rfl rfl (by decide) ?_
  refine gz_if_eq hC 19 dX2_goesOn_4 (by decide) (fun c4 => ?_) (fun c4 => ?_)
  · rw [ht] at c4
    have q1 := gz_b0 c4
    refine gz_iconst hC (0) dX2_goesOn_19 (by decide) ?_
    exact gz_zret rfl hC dX2_goesOn_20 ⟨gz_v (by rw [q1]; first | rfl | (rw [decide_eq_true c12]; rfl) | (rw [decide_eq_false c12]; rfl)), rfl⟩
  · rw [ht] at c4
    have q1 := gz_b1 c4
    refine gz_aload_n hC dX2_goesOn_7 rfl ?_
    refine gz_getI (j := 6) hC dX2_goesOn_8 cf_X2 fl_X2_15 rfl rfl (by decide) ?_
    refine gz_iconst hC (-1) dX2_goesOn_11 (by decide) ?_
    refine gz_icmp_eq hC 19 dX2_goesOn_12 (by decide) (fun c12 => ?_) (fun c12 => ?_)
    · refine gz_iconst hC (0) dX2_goesOn_19 (by decide) ?_
      exact gz_zret rfl hC dX2_goesOn_20 ⟨gz_v (by rw [q1]; first | rfl | (rw [decide_eq_true c12]; rfl) | (rw [decide_eq_false c12]; rfl)), rfl⟩
    · refine gz_iconst hC (1) dX2_goesOn_15 (by decide) ?_
      refine gz_goto hC 20 dX2_goesOn_16 (by decide) ?_
      exact gz_zret rfl hC dX2_goesOn_20 ⟨gz_v (by rw [q1]; first | rfl | (rw [decide_eq_true c12]; rfl) | (rw [decide_eq_false c12]; rfl)), rfl⟩
set_option maxHeartbeats 4000000 in
set_option maxRecDepth 100000 in
theorem ct_X2_bid (hJ : gz_inj ad lx_lay) (I : Nat → Nat → Int32) (G : Nat → Nat → UInt64) (x1 : Int32) : gz_Ct l D ad cy lx_lay yX2_bid cX2_bid 2 none 0 [.ref (ad 23), .int x1] (I, G) (fun v M1 => v = none ∧ M1 = (gz_up (gz_up (gz_up I 23 7 x1) 23 8 (I 23 8 + 1)) 23 6 (1 - I 23 6), G)) := by
  refine gz_met (by decide +kernel) hJ (Nat.le_of_ble_eq_true rfl) ?_
  intro p e s m args below meth c hC
  refine gz_aload_n hC dX2_bid_0 rfl ?_
  refine gz_iload_n hC dX2_bid_1 rfl ?_
  refine gz_put (j := 7) hC dX2_bid_2 cf_X2 fl_X2_19 rfl rfl (by decide) rfl rfl rfl ?_
  refine gz_aload_n hC dX2_bid_5 rfl ?_
  refine gz_dup hC dX2_bid_6 rfl ?_
  refine gz_getI (j := 8) hC dX2_bid_7 cf_X2 fl_X2_52 rfl rfl (by decide) ?_
  refine gz_iconst hC (1) dX2_bid_10 (by decide) ?_
  refine gz_iadd hC dX2_bid_11 ?_
  refine gz_put (j := 8) hC dX2_bid_12 cf_X2 fl_X2_52 rfl rfl (by decide) rfl rfl rfl ?_
  refine gz_aload_n hC dX2_bid_15 rfl ?_
  refine gz_iconst hC (1) dX2_bid_16 (by decide) ?_
  refine gz_aload_n hC dX2_bid_17 rfl ?_
  refine gz_getI (j := 6) hC dX2_bid_18 cf_X2 fl_X2_15 rfl rfl (by decide) ?_
  refine gz_isub hC dX2_bid_21 ?_
  refine gz_put (j := 6) hC dX2_bid_22 cf_X2 fl_X2_15 rfl rfl (by decide) rfl rfl rfl ?_
  exact gz_vret hC dX2_bid_25 ⟨rfl, rfl⟩
set_option maxHeartbeats 4000000 in
set_option maxRecDepth 100000 in
theorem ct_X2_end (hJ : gz_inj ad lx_lay) (I : Nat → Nat → Int32) (G : Nat → Nat → UInt64) (d0 d1 F : Nat) (w : Bool) (hO : cf_ok d0 d1 F) (hX : xi_tab d0 d1 F w I) (a b k : Nat) (ha : I 23 4 = nI a) (hb : I 23 5 = nI b) (hk : I 23 7 = nI k) (hag : a < tb_n d0 F) (hbg : b < tb_n d1 F) (hkb : k < (d0 + d1) * F) : gz_Ct l D ad cy lx_lay yX2_end cX2_end 1 none 2 [.ref (ad 23)] (I, G) (fun v M1 => ∃ I1, v = none ∧ M1 = (I1, G) ∧ (∀ j, j ≠ 6 → j ≠ 9 → j ≠ 10 → j ≠ 11 → I1 23 j = I 23 j) ∧ I1 23 6 = -1 ∧ I1 23 9 = cond (tb_t d0 d1 F w a b k) (1 - I 23 6) (I 23 6) ∧ I1 23 10 = (if cond (tb_t d0 d1 F w a b k) (1 - I 23 6) (I 23 6) = 0 then I 23 10 + 1 else I 23 10) ∧ I1 23 11 = (if cond (tb_t d0 d1 F w a b k) (1 - I 23 6) (I 23 6) = 0 then I 23 11 else I 23 11 + 1) ∧ ∀ o, o ≠ 23 → I1 o = I o) := by
  refine gz_met (by decide +kernel) hJ (Nat.le_of_ble_eq_true rfl) ?_
  intro p e s m args below meth c hC
  refine gz_aload_n hC dX2_end_0 rfl ?_
  refine gz_aload_n hC dX2_end_1 rfl ?_
  refine gz_getR (j := 0) hC dX2_end_2 cf_X2 fl_X2_25 rfl rfl (by decide) ?_
  refine gz_aload_n hC dX2_end_5 rfl ?_
  refine gz_getI (j := 4) hC dX2_end_6 cf_X2 fl_X2_46 rfl rfl (by decide) ?_
  refine gz_aload_n hC dX2_end_9 rfl ?_
  refine gz_getI (j := 5) hC dX2_end_10 cf_X2 fl_X2_49 rfl rfl (by decide) ?_
  refine gz_aload_n hC dX2_end_13 rfl ?_
  refine gz_getI (j := 7) hC dX2_end_14 cf_X2 fl_X2_19 rfl rfl (by decide) ?_
  refine gz_callV3 hC dX2_end_17 ml_X2_88 rfl rfl (by decide) (by decide) (Nat.le_of_ble_eq_true rfl) (ct_X6_isTrue hJ _ _ d0 d1 F w hO hX a b k _ _ _ ha hb hk hag hbg hkb) (fun v17 M17 hp17 => ?_)
  obtain ⟨rfl, rfl⟩ := hp17
  refine gz_if_eq hC 32 dX2_end_20 (by decide) (fun c20 => ?_) (fun c20 => ?_)
  · have q1 := gz_b0 c20
    refine gz_aload_n hC dX2_end_32 rfl ?_
    refine gz_getI (j := 6) hC dX2_end_33 cf_X2 fl_X2_15 rfl rfl (by decide) ?_
    refine gz_put (j := 9) hC dX2_end_36 cf_X2 fl_X2_22 rfl rfl (by decide) rfl rfl rfl ?_
    refine gz_aload_n hC dX2_end_39 rfl ?_
    refine gz_iconst hC (-1) dX2_end_40 (by decide) ?_
    refine gz_put (j := 6) hC dX2_end_41 cf_X2 fl_X2_15 rfl rfl (by decide) rfl rfl rfl ?_
    refine gz_aload_n hC dX2_end_44 rfl ?_
    refine gz_getI (j := 9) hC dX2_end_45 cf_X2 fl_X2_22 rfl rfl (by decide) ?_
    rw [gz_up_oth (by decide), gz_up_self]
    refine gz_if_ne hC 64 dX2_end_48 (by decide) (fun c49 => ?_) (fun c49 => ?_)
    · refine gz_aload_n hC dX2_end_64 rfl ?_
      refine gz_dup hC dX2_end_65 rfl ?_
      refine gz_getI (j := 11) hC dX2_end_66 cf_X2 fl_X2_95 rfl rfl (by decide) ?_
      refine gz_iconst hC (1) dX2_end_69 (by decide) ?_
      refine gz_iadd hC dX2_end_70 ?_
      refine gz_put (j := 11) hC dX2_end_71 cf_X2 fl_X2_95 rfl rfl (by decide) rfl rfl rfl ?_
      exact gz_vret hC dX2_end_74 ⟨_, rfl, rfl, fun j h1 h2 h3 h4 => by rw [gz_up_oth (by omega), gz_up_oth h1, gz_up_oth h2], by rw [gz_up_oth (by decide), gz_up_self], by rw [gz_up_oth (by decide), gz_up_oth (by decide), gz_up_self, q1]; rfl, by rw [q1]; simp only [cond_true, cond_false]; first | (rw [if_pos c49]; simp [gz_up]; done) | (rw [if_neg c49]; simp [gz_up]; done), by rw [q1]; simp only [cond_true, cond_false]; first | (rw [if_pos c49]; simp [gz_up]; done) | (rw [if_neg c49]; simp [gz_up]; done), fun o ho => by rw [gz_up_ne ho, gz_up_ne ho, gz_up_ne ho]⟩
    · refine gz_aload_n hC dX2_end_51 rfl ?_
      refine gz_dup hC dX2_end_52 rfl ?_
      refine gz_getI (j := 10) hC dX2_end_53 cf_X2 fl_X2_92 rfl rfl (by decide) ?_
      refine gz_iconst hC (1) dX2_end_56 (by decide) ?_
      refine gz_iadd hC dX2_end_57 ?_
      refine gz_put (j := 10) hC dX2_end_58 cf_X2 fl_X2_92 rfl rfl (by decide) rfl rfl rfl ?_
      refine gz_goto hC 74 dX2_end_61 (by decide) ?_
      exact gz_vret hC dX2_end_74 ⟨_, rfl, rfl, fun j h1 h2 h3 h4 => by rw [gz_up_oth (by omega), gz_up_oth h1, gz_up_oth h2], by rw [gz_up_oth (by decide), gz_up_self], by rw [gz_up_oth (by decide), gz_up_oth (by decide), gz_up_self, q1]; rfl, by rw [q1]; simp only [cond_true, cond_false]; first | (rw [if_pos c49]; simp [gz_up]; done) | (rw [if_neg c49]; simp [gz_up]; done), by rw [q1]; simp only [cond_true, cond_false]; first | (rw [if_pos c49]; simp [gz_up]; done) | (rw [if_neg c49]; simp [gz_up]; done), fun o ho => by rw [gz_up_ne ho, gz_up_ne ho, gz_up_ne ho]⟩
  · have q1 := gz_b1 c20
    refine gz_iconst hC (1) dX2_end_23 (by decide) ?_
    refine gz_aload_n hC dX2_end_24 rfl ?_
    refine gz_getI (j := 6) hC dX2_end_25 cf_X2 fl_X2_15 rfl rfl (by decide) ?_
    refine gz_isub hC dX2_end_28 ?_
    refine gz_goto hC 36 dX2_end_29 (by decide) ?_
    refine gz_put (j := 9) hC dX2_end_36 cf_X2 fl_X2_22 rfl rfl (by decide) rfl rfl rfl ?_
    refine gz_aload_n hC dX2_end_39 rfl ?_
    refine gz_iconst hC (-1) dX2_end_40 (by decide) ?_
    refine gz_put (j := 6) hC dX2_end_41 cf_X2 fl_X2_15 rfl rfl (by decide) rfl rfl rfl ?_
    refine gz_aload_n hC dX2_end_44 rfl ?_
    refine gz_getI (j := 9) hC dX2_end_45 cf_X2 fl_X2_22 rfl rfl (by decide) ?_
    rw [gz_up_oth (by decide), gz_up_self]
    refine gz_if_ne hC 64 dX2_end_48 (by decide) (fun c49 => ?_) (fun c49 => ?_)
    · refine gz_aload_n hC dX2_end_64 rfl ?_
      refine gz_dup hC dX2_end_65 rfl ?_
      refine gz_getI (j := 11) hC dX2_end_66 cf_X2 fl_X2_95 rfl rfl (by decide) ?_
      refine gz_iconst hC (1) dX2_end_69 (by decide) ?_
      refine gz_iadd hC dX2_end_70 ?_
      refine gz_put (j := 11) hC dX2_end_71 cf_X2 fl_X2_95 rfl rfl (by decide) rfl rfl rfl ?_
      exact gz_vret hC dX2_end_74 ⟨_, rfl, rfl, fun j h1 h2 h3 h4 => by rw [gz_up_oth (by omega), gz_up_oth h1, gz_up_oth h2], by rw [gz_up_oth (by decide), gz_up_self], by rw [gz_up_oth (by decide), gz_up_oth (by decide), gz_up_self, q1]; rfl, by rw [q1]; simp only [cond_true, cond_false]; first | (rw [if_pos c49]; simp [gz_up]; done) | (rw [if_neg c49]; simp [gz_up]; done), by rw [q1]; simp only [cond_true, cond_false]; first | (rw [if_pos c49]; simp [gz_up]; done) | (rw [if_neg c49]; simp [gz_up]; done), fun o ho => by rw [gz_up_ne ho, gz_up_ne ho, gz_up_ne ho]⟩
    · refine gz_aload_n hC dX2_end_51 rfl ?_
      refine gz_dup hC dX2_end_52 rfl ?_
      refine gz_getI (j := 10) hC dX2_end_53 cf_X2 fl_X2_92 rfl rfl (by decide) ?_
      refine gz_iconst hC (1) dX2_end_56 (by decide) ?_
      refine gz_iadd hC dX2_end_57 ?_
      refine gz_put (j := 10) hC dX2_end_58 cf_X2 fl_X2_92 rfl rfl (by decide) rfl rfl rfl ?_
      refine gz_goto hC 74 dX2_end_61 (by decide) ?_
      exact gz_vret hC dX2_end_74 ⟨_, rfl, rfl, fun j h1 h2 h3 h4 => by rw [gz_up_oth (by omega), gz_up_oth h1, gz_up_oth h2], by rw [gz_up_oth (by decide), gz_up_self], by rw [gz_up_oth (by decide), gz_up_oth (by decide), gz_up_self, q1]; rfl, by rw [q1]; simp only [cond_true, cond_false]; first | (rw [if_pos c49]; simp [gz_up]; done) | (rw [if_neg c49]; simp [gz_up]; done), by rw [q1]; simp only [cond_true, cond_false]; first | (rw [if_pos c49]; simp [gz_up]; done) | (rw [if_neg c49]; simp [gz_up]; done), fun o ho => by rw [gz_up_ne ho, gz_up_ne ho, gz_up_ne ho]⟩
set_option maxHeartbeats 4000000 in
set_option maxRecDepth 100000 in
theorem ct_X2_fact (hJ : gz_inj ad lx_lay) (I : Nat → Nat → Int32) (G : Nat → Nat → UInt64) (j : Nat) (hj : j < 4) (x1 : Int32) (hx1 : x1 = nI j) : gz_Ct l D ad cy lx_lay yX2_fact cX2_fact 2 (some .int) 0 [.ref (ad 23), .int x1] (I, G) (fun v M1 => v = some (.int (I 23 (6 + j))) ∧ M1 = (I, G)) := by
  refine gz_met (by decide +kernel) hJ (Nat.le_of_ble_eq_true rfl) ?_
  intro p e s m args below meth c hC
  refine gz_iload_n hC dX2_fact_0 rfl ?_
  subst hx1
  match j, hj with
  | 0, _ =>
    refine gz_tabIn hC 28 dX2_fact_1 (by decide) (by decide) rfl (by decide) ?_
    refine gz_aload_n hC dX2_fact_28 rfl ?_
    refine gz_getI (j := 6) hC dX2_fact_29 cf_X2 fl_X2_15 rfl rfl (by decide) ?_
    exact gz_iret hC dX2_fact_32 ⟨rfl, rfl⟩
  | 1, _ =>
    refine gz_tabIn hC 33 dX2_fact_1 (by decide) (by decide) rfl (by decide) ?_
    refine gz_aload_n hC dX2_fact_33 rfl ?_
    refine gz_getI (j := 7) hC dX2_fact_34 cf_X2 fl_X2_19 rfl rfl (by decide) ?_
    exact gz_iret hC dX2_fact_37 ⟨rfl, rfl⟩
  | 2, _ =>
    refine gz_tabIn hC 38 dX2_fact_1 (by decide) (by decide) rfl (by decide) ?_
    refine gz_aload_n hC dX2_fact_38 rfl ?_
    refine gz_getI (j := 8) hC dX2_fact_39 cf_X2 fl_X2_52 rfl rfl (by decide) ?_
    exact gz_iret hC dX2_fact_42 ⟨rfl, rfl⟩
  | 3, _ =>
    refine gz_tabOut hC 43 dX2_fact_1 (by decide) (by decide) ?_
    refine gz_aload_n hC dX2_fact_43 rfl ?_
    refine gz_getI (j := 9) hC dX2_fact_44 cf_X2 fl_X2_22 rfl rfl (by decide) ?_
    exact gz_iret hC dX2_fact_47 ⟨rfl, rfl⟩
  -- places not laid: [28, 29, 32, 33, 34, 37, 38, 39, 42, 43, 44, 47]
end CT
