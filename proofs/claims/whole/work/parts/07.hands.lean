/-! a cup: the next row, and all its hands -/
theorem gz_bk_sn {α : Type} {f : Nat → Nat → α} {k a n : Nat} {g : Nat → α} {v : α} (hv : v = g n) : gz_up (gz_bk f k a n g) k (a + n) v = gz_bk f k a (n + 1) g := by
  funext o q
  by_cases ho : o = k
  · subst ho
    by_cases hq : q = a + n
    · subst hq
      rw [gz_up_self, gz_bk_in (Nat.lt_succ_self n), hv]
    · rw [gz_up_oth hq]
      by_cases h2 : a ≤ q ∧ q < a + n
      · rw [show q = a + (q - a) by omega, gz_bk_in (by omega), gz_bk_in (by omega)]
      · rw [gz_bk_out (by omega), gz_bk_out (by omega)]
  · rw [gz_up_ne ho, gz_bk_ne ho, gz_bk_ne ho]
/-- the last place below j that may rise -/
def tb_sta (F : Nat) (r : Nat → Nat) : Nat → Option Nat
  | 0 => none
  | i + 1 => if r i + 1 < F then some i else tb_sta F r i
def tb_nx (d F : Nat) (r : Nat → Nat) : Nat → Nat := match tb_sta F r d with
  | none => r
  | some i => fun j => if i ≤ j then r i + 1 else r j
def tb_rw (d F : Nat) : Nat → Nat → Nat
  | 0 => fun _ => 0
  | h + 1 => tb_nx d F (tb_rw d F h)
def tb_n (d F : Nat) : Nat := if d = 1 then F else d + 1
def tb_ok (d F : Nat) : Prop := (d = 1 ∧ F = 2) ∨ (d = 1 ∧ F = 3) ∨ (d = 1 ∧ F = 4) ∨ (d = 2 ∧ F = 2) ∨ (d = 3 ∧ F = 2)
theorem tb_sta_lt {F : Nat} {r : Nat → Nat} : ∀ {j i : Nat}, tb_sta F r j = some i → i < j
  | 0, _, h => by cases h
  | j + 1, i, h => by
    unfold tb_sta at h
    split at h
    · cases h; exact Nat.lt_succ_self _
    · exact Nat.lt_succ_of_lt (tb_sta_lt h)
theorem tb_facts {d F : Nat} (h : tb_ok d F) : (∀ q, q < tb_n d F → ∀ i, i < d → tb_rw d F q i < F) ∧ (∀ q, q + 1 < tb_n d F → (tb_sta F (tb_rw d F q) d).isSome = true) ∧ (∀ q, q + 1 = tb_n d F → tb_sta F (tb_rw d F q) d = none) ∧ 1 ≤ tb_n d F ∧ tb_n d F ≤ 4 ∧ d ≤ 3 ∧ F ≤ 4 ∧ 1 ≤ d ∧ 2 ≤ F := by
  have key : ∀ d F : Nat, (∀ q, q < 4 → q < tb_n d F → ∀ i, i < d → tb_rw d F q i < F) → (∀ q, q < 4 → q + 1 < tb_n d F → (tb_sta F (tb_rw d F q) d).isSome = true) → (∀ q, q < 4 → q + 1 = tb_n d F → tb_sta F (tb_rw d F q) d = none) → (1 ≤ tb_n d F ∧ tb_n d F ≤ 4 ∧ d ≤ 3 ∧ F ≤ 4 ∧ 1 ≤ d ∧ 2 ≤ F) → (∀ q, q < tb_n d F → ∀ i, i < d → tb_rw d F q i < F) ∧ (∀ q, q + 1 < tb_n d F → (tb_sta F (tb_rw d F q) d).isSome = true) ∧ (∀ q, q + 1 = tb_n d F → tb_sta F (tb_rw d F q) d = none) ∧ 1 ≤ tb_n d F ∧ tb_n d F ≤ 4 ∧ d ≤ 3 ∧ F ≤ 4 ∧ 1 ≤ d ∧ 2 ≤ F := fun d F h1 h2 h3 h4 => ⟨fun q hq => h1 q (by omega) hq, fun q hq => h2 q (by omega) hq, fun q hq => h3 q (by omega) hq, h4⟩
  rcases h with ⟨rfl, rfl⟩ | ⟨rfl, rfl⟩ | ⟨rfl, rfl⟩ | ⟨rfl, rfl⟩ | ⟨rfl, rfl⟩ <;> exact key _ _ (by decide) (by decide) (by decide) (by decide)
def xi_cup (k d F : Nat) (I : Nat → Nat → Int32) : Prop := I k 3 = nI d ∧ I k 4 = nI F ∧ I k 5 = nI (tb_n d F) ∧ (∀ h, h < tb_n d F → ∀ f, f < 4 → I (k + 1) (h * 4 + f) = nI (tb_cnt (tb_rw d F h) d f)) ∧ ∀ h, h < tb_n d F → I (k + 2) h = nI (tb_ord (tb_rw d F h) d F)
section CT
variable {l : Launch} {D : va_G} {ad : Nat → Nat} {cy : Nat → ClassId}
set_option maxHeartbeats 4000000 in
set_option maxRecDepth 100000 in
theorem ct_X1_stepRow (hJ : gz_inj ad lx_lay) (I : Nat → Nat → Int32) (G : Nat → Nat → UInt64) (k : Nat) (hK : lx_cup k) (d F : Nat) (r : Nat → Nat) (hd : I k 3 = nI d) (hF : I k 4 = nI F) (hd3 : d ≤ 3) (hF4 : F ≤ 4) (hr : ∀ i, i < d → I (k + 3) i = nI (r i)) (hrF : ∀ i, i < d → r i < F) : gz_Ct l D ad cy lx_lay yX1_stepRow cX1_stepRow 4 (some .boolean) 1 [.ref (ad k)] (I, G) (fun v M1 => (tb_sta F r d = none ∧ v = some (.int 0) ∧ M1 = (I, G)) ∨ (∃ i, tb_sta F r d = some i ∧ v = some (.int 1) ∧ M1 = (gz_bk I (k + 3) i (d - i) (fun _ => nI (r i + 1)), G))) := by
  refine gz_met (by decide +kernel) hJ (Nat.le_of_ble_eq_true rfl) ?_
  intro p e s m args below meth c hC
  refine gz_aload_n hC dX1_stepRow_0 rfl ?_
  refine gz_getI (j := 3) hC dX1_stepRow_1 cf_X1 fl_X1_21 hK.1 rfl (by decide) ?_
  refine gz_iconst hC (1) dX1_stepRow_4 (by decide) ?_
  refine gz_isub hC dX1_stepRow_5 ?_
  refine gz_istore_n hC dX1_stepRow_6 (by decide) ?_
  have lp : ∀ (j : Nat) (hj : j ≤ d) (x1 : Int32) (h1 : j = 0 → x1 = -1) (h2 : ∀ i, j = i + 1 → x1 = nI i) (hst : tb_sta F r d = tb_sta F r j), gz_W p l e (gz_rm 1) s m args below meth c D ad cy lx_lay 4 (MQ below (gz_Q D ad cy lx_lay (fun v M1 => (tb_sta F r d = none ∧ v = some (.int 0) ∧ M1 = (I, G)) ∨ (∃ i, tb_sta F r d = some i ∧ v = some (.int 1) ∧ M1 = (gz_bk I (k + 3) i (d - i) (fun _ => nI (r i + 1)), G)))) args s 0 0 (gz_A ad lx_lay)) (I, G) 7 [(0, .ref (ad k)), (1, .int x1)] [] := by
    intro j
    induction j with
    | zero =>
      intro hj x1 h1 h2 hst
      refine gz_iload_n hC dX1_stepRow_7 rfl ?_
      refine gz_if_lt hC 63 dX1_stepRow_8 (by decide) (fun c8 => ?_) (fun c8 => ?_)
      · refine gz_iconst hC (0) dX1_stepRow_63 (by decide) ?_
        exact gz_zret rfl hC dX1_stepRow_64 (Or.inl ⟨by rw [hst]; rfl, rfl, rfl⟩)
      · exact absurd (by rw [h1 rfl]; decide) c8
    | succ i ih =>
      intro hj x1 h1 h2 hst
      have hx1 := h2 i rfl
      have hri := hrF i (by omega)
      refine gz_iload_n hC dX1_stepRow_7 rfl ?_
      refine gz_if_lt hC 63 dX1_stepRow_8 (by decide) (fun c8 => ?_) (fun c8 => ?_)
      · exact absurd c8 (by rw [hx1]; exact nI_pos (by omega))
      · refine gz_aload_n hC dX1_stepRow_11 rfl ?_
        refine gz_getR (j := 2) hC dX1_stepRow_12 cf_X1 fl_X1_18 hK.1 rfl (by decide) ?_
        refine gz_iload_n hC dX1_stepRow_15 rfl ?_
        refine gz_callSN2 hC dX1_stepRow_16 ml_X1_45 (by decide) (by decide) (Nat.le_of_ble_eq_true rfl) (ct_X7_at hJ _ _ _ 3 i hK.2.2.2 (by omega) _ hx1 (by omega)) (fun v16 M16 hp16 => ?_)
        obtain ⟨rfl, rfl⟩ := hp16
        rw [hr i (by omega)]
        refine gz_iconst hC (1) dX1_stepRow_19 (by decide) ?_
        refine gz_iadd hC dX1_stepRow_20 ?_
        obtain ⟨x2, hx2⟩ : ∃ y, y = nI (r i) + 1 := ⟨_, rfl⟩
        rw [← hx2]
        rw [nI_1] at hx2
        refine gz_istore_n hC dX1_stepRow_21 (by decide) ?_
        refine gz_iload_n hC dX1_stepRow_22 rfl ?_
        refine gz_aload_n hC dX1_stepRow_23 rfl ?_
        refine gz_getI (j := 4) hC dX1_stepRow_24 cf_X1 fl_X1_25 hK.1 rfl (by decide) ?_
        refine gz_icmp_ge hC 57 dX1_stepRow_27 (by decide) (fun c27 => ?_) (fun c27 => ?_)
        · refine gz_iinc hC (-1) dX1_stepRow_57 rfl (by decide) (by decide) ?_
          refine gz_goto hC 7 dX1_stepRow_60 (by decide) ?_
          have hge : ¬ r i + 1 < F := fun q => gz_inle hF hx2 q (by omega) c27
          refine gz_lw [(0, .ref (ad k)), (1, .int (x1 + (-1)))] ⟨rfl, rfl, trivial⟩ ?_
          exact ih (by omega) (x1 + (-1)) (fun h0 => by subst h0; rw [hx1]; rfl) (fun q hq => by subst hq; rw [hx1]; exact pk_m1 q) (by rw [hst]; show tb_sta F r (i + 1) = _; rw [tb_sta, if_neg hge])
        · have hlt : r i + 1 < F := by
            rcases Nat.lt_or_ge (r i + 1) F with q | q
            · exact q
            · exact absurd (gz_ile hF hx2 q (by omega)) c27
          refine gz_iload_n hC dX1_stepRow_30 rfl ?_
          refine gz_istore_n hC dX1_stepRow_31 (by decide) ?_
          have hsi : tb_sta F r d = some i := by rw [hst]; unfold tb_sta; rw [if_pos hlt]
          have lp2 : ∀ (n t : Nat) (x3 : Int32) (hi : i + t + n = d) (hx3 : x3 = nI (i + t)), gz_W p l e (gz_rm 1) s m args below meth c D ad cy lx_lay 4 (MQ below (gz_Q D ad cy lx_lay (fun v M1 => (tb_sta F r d = none ∧ v = some (.int 0) ∧ M1 = (I, G)) ∨ (∃ i, tb_sta F r d = some i ∧ v = some (.int 1) ∧ M1 = (gz_bk I (k + 3) i (d - i) (fun _ => nI (r i + 1)), G)))) args s 0 0 (gz_A ad lx_lay)) (gz_bk I (k + 3) i t (fun _ => nI (r i + 1)), G) 32 [(0, .ref (ad k)), (1, .int x1), (2, .int x2), (3, .int x3)] [] := by
            intro n
            induction n with
            | zero =>
              intro t x3 hi hx3
              refine gz_iload_n hC dX1_stepRow_32 rfl ?_
              refine gz_aload_n hC dX1_stepRow_33 rfl ?_
              refine gz_getI (j := 3) hC dX1_stepRow_34 cf_X1 fl_X1_21 hK.1 rfl (by decide) ?_
              refine gz_icmp_ge hC 55 dX1_stepRow_37 (by decide) (fun c37 => ?_) (fun c37 => ?_)
              · refine gz_iconst hC (1) dX1_stepRow_55 (by decide) ?_
                exact gz_zret rfl hC dX1_stepRow_56 (Or.inr ⟨i, hsi, rfl, by rw [show d - i = t by omega]⟩)
              · exact absurd (gz_ile (by exact (gz_bk_at (by omega)).trans hd) hx3 (by omega) (by omega)) c37
            | succ n ih =>
              intro t x3 hi hx3
              refine gz_iload_n hC dX1_stepRow_32 rfl ?_
              refine gz_aload_n hC dX1_stepRow_33 rfl ?_
              refine gz_getI (j := 3) hC dX1_stepRow_34 cf_X1 fl_X1_21 hK.1 rfl (by decide) ?_
              refine gz_icmp_ge hC 55 dX1_stepRow_37 (by decide) (fun c37 => ?_) (fun c37 => ?_)
              · exact absurd c37 (gz_inle (by exact (gz_bk_at (by omega)).trans hd) hx3 (by omega) (by omega))
              · refine gz_aload_n hC dX1_stepRow_40 rfl ?_
                refine gz_getR (j := 2) hC dX1_stepRow_41 cf_X1 fl_X1_18 hK.1 rfl (by decide) ?_
                refine gz_iload_n hC dX1_stepRow_44 rfl ?_
                refine gz_iload_n hC dX1_stepRow_45 rfl ?_
                refine gz_callSN3 hC dX1_stepRow_46 ml_X1_53 (by decide) (by decide) (Nat.le_of_ble_eq_true rfl) (ct_X7_put hJ _ _ _ 3 (i + t) hK.2.2.2 (by omega) _ _ hx3 (by omega)) (fun v46 M46 hp46 => ?_)
                obtain ⟨rfl, rfl⟩ := hp46
                rw [gz_bk_sn (g := fun _ => nI (r i + 1)) hx2]
                refine gz_iinc hC (1) dX1_stepRow_49 rfl (by decide) (by decide) ?_
                refine gz_goto hC 32 dX1_stepRow_52 (by decide) ?_
                refine gz_lw [(0, .ref (ad k)), (1, .int x1), (2, .int x2), (3, .int (x3 + 1))] ⟨rfl, rfl, rfl, rfl, trivial⟩ ?_
                exact ih (t + 1) _ (by omega) (by rw [show i + (t + 1) = i + t + 1 by omega]; exact gz_i1 hx3)
          have h9 := lp2 (d - i) 0 x1 (by omega) hx1
          rw [gz_bk_0 (n := 0) (fun j hj => absurd hj (Nat.not_lt_zero j))] at h9
          exact gz_lw [(0, .ref (ad k)), (1, .int x1), (2, .int x2), (3, .int x1)] ⟨rfl, rfl, rfl, rfl, trivial⟩ h9
  refine gz_lw [(0, .ref (ad k)), (1, .int (I k 3 - 1))] ⟨rfl, rfl, trivial⟩ ?_
  exact lp d (Nat.le_refl d) _ (fun h0 => by rw [hd, h0]; rfl) (fun i hi => by rw [hd, hi]; exact nI_pred i) rfl
  -- places not laid: [8, 11, 12, 15, 16, 19, 20, 21, 22, 23, 24, 27, 30, 31, 32, 33, 34, 37, 40, 41, 44, 45, 46, 49, 52, 55, 56, 57, 60, 63, 64]
set_option maxHeartbeats 4000000 in
set_option maxRecDepth 100000 in
theorem ct_X1_fill (hJ : gz_inj ad lx_lay) (I : Nat → Nat → Int32) (G : Nat → Nat → UInt64) (k : Nat) (hK : lx_cup k) (d F : Nat) (x1 x2 : Int32) (hx1 : x1 = nI d) (hx2 : x2 = nI F) (hT : tb_ok d F) : gz_Ct l D ad cy lx_lay yX1_fill cX1_fill 4 none 3 [.ref (ad k), .int x1, .int x2] (I, G) (fun v M1 => ∃ I1, v = none ∧ M1 = (I1, G) ∧ xi_cup k d F I1 ∧ ∀ o, o ≠ k → o ≠ k + 1 → o ≠ k + 2 → o ≠ k + 3 → I1 o = I o) := by
  obtain ⟨T1, T2, T3, T4, T5, T6, T7, T8, T9⟩ := tb_facts hT
  refine gz_met (by decide +kernel) hJ (Nat.le_of_ble_eq_true rfl) ?_
  intro p e s m args below meth c hC
  refine gz_aload_n hC dX1_fill_0 rfl ?_
  refine gz_iload_n hC dX1_fill_1 rfl ?_
  refine gz_put (j := 3) hC dX1_fill_2 cf_X1 fl_X1_21 hK.1 rfl (by decide) rfl rfl rfl ?_
  refine gz_aload_n hC dX1_fill_5 rfl ?_
  refine gz_iload_n hC dX1_fill_6 rfl ?_
  refine gz_put (j := 4) hC dX1_fill_7 cf_X1 fl_X1_25 hK.1 rfl (by decide) rfl rfl rfl ?_
  refine gz_aload_n hC dX1_fill_10 rfl ?_
  refine gz_iconst hC (0) dX1_fill_11 (by decide) ?_
  refine gz_put (j := 5) hC dX1_fill_12 cf_X1 fl_X1_28 hK.1 rfl (by decide) rfl rfl rfl ?_
  refine gz_aload_n hC dX1_fill_15 rfl ?_
  refine gz_getR (j := 0) hC dX1_fill_16 cf_X1 fl_X1_9 hK.1 rfl (by decide) ?_
  refine gz_iconst hC (0) dX1_fill_19 (by decide) ?_
  refine gz_callS2 hC dX1_fill_20 ml_X1_31 (by decide) (by decide) (Nat.le_of_ble_eq_true rfl) (ct_J7_fill_53178 hJ _ _ _ 16 hK.2.1 (by omega) _) (fun v20 M20 hp20 => ?_)
  obtain ⟨rfl, rfl⟩ := hp20
  refine gz_aload_n hC dX1_fill_23 rfl ?_
  refine gz_getR (j := 2) hC dX1_fill_24 cf_X1 fl_X1_18 hK.1 rfl (by decide) ?_
  refine gz_iconst hC (0) dX1_fill_27 (by decide) ?_
  refine gz_callS2 hC dX1_fill_28 ml_X1_31 (by decide) (by decide) (Nat.le_of_ble_eq_true rfl) (ct_J7_fill_53178 hJ _ _ _ 3 hK.2.2.2 (by omega) _) (fun v28 M28 hp28 => ?_)
  obtain ⟨rfl, rfl⟩ := hp28
  refine gz_iconst hC (1) dX1_fill_31 (by decide) ?_
  refine gz_istore_n hC dX1_fill_32 (by decide) ?_
  have lp : ∀ (n h : Nat) (J : Nat → Nat → Int32) (x3 : Int32) (hi : h + n + 1 = tb_n d F) (hx3 : x3 = 1) (h3 : J k 3 = nI d) (h4 : J k 4 = nI F) (h5 : J k 5 = nI h) (hp : ∀ q, q < h → ∀ f, f < 4 → J (k + 1) (q * 4 + f) = nI (tb_cnt (tb_rw d F q) d f)) (hw : ∀ q, q < h → J (k + 2) q = nI (tb_ord (tb_rw d F q) d F)) (hz : ∀ q, h ≤ q → q < 4 → ∀ f, f < 4 → J (k + 1) (q * 4 + f) = nI 0) (hr : ∀ i, i < d → J (k + 3) i = nI (tb_rw d F h i)) (hf : ∀ o, o ≠ k → o ≠ k + 1 → o ≠ k + 2 → o ≠ k + 3 → J o = I o), gz_W p l e (gz_rm 3) s m args below meth c D ad cy lx_lay 4 (MQ below (gz_Q D ad cy lx_lay (fun v M1 => ∃ I1, v = none ∧ M1 = (I1, G) ∧ xi_cup k d F I1 ∧ ∀ o, o ≠ k → o ≠ k + 1 → o ≠ k + 2 → o ≠ k + 3 → I1 o = I o)) args s 0 0 (gz_A ad lx_lay)) (J, G) 33 [(0, .ref (ad k)), (3, .int x3)] [] := by
    intro n
    induction n with
    | zero =>
      intro h J x3 hi hx3 h3 h4 h5 hp hw hz hr hf
      subst hx3
      refine gz_iload_n hC dX1_fill_33 rfl ?_
      refine gz_if_eq hC 71 dX1_fill_34 (by decide) (fun c34 => ?_) (fun c34 => ?_)
      · exact absurd c34 (by decide)
      · refine gz_aload_n hC dX1_fill_37 rfl ?_
        refine gz_getI (j := 5) hC dX1_fill_38 cf_X1 fl_X1_28 hK.1 rfl (by decide) ?_
        refine gz_iconst hC (4) dX1_fill_41 (by decide) ?_
        refine gz_icmp_ge hC 71 dX1_fill_42 (by decide) (fun c42 => ?_) (fun c42 => ?_)
        · exact absurd c42 (gz_inle gz_n4 h5 (by omega) (by omega))
        · refine gz_aload_n hC dX1_fill_45 rfl ?_
          refine gz_aload_n hC dX1_fill_46 rfl ?_
          refine gz_getI (j := 5) hC dX1_fill_47 cf_X1 fl_X1_28 hK.1 rfl (by decide) ?_
          refine gz_callV1 hC dX1_fill_50 ml_X1_37 hK.1 rfl (by decide) (by decide) (Nat.le_of_ble_eq_true rfl) (ct_X1_writeHand hJ _ _ k hK h d F (tb_rw d F h) _ h5 (by omega) h3 h4 (by omega) (by omega) hr (T1 h (by omega)) (hz h (Nat.le_refl h) (by omega))) (fun v50 M50 hp50 => ?_)
          obtain ⟨rfl, rfl⟩ := hp50
          refine gz_aload_n hC dX1_fill_53 rfl ?_
          refine gz_dup hC dX1_fill_54 rfl ?_
          refine gz_getI (j := 5) hC dX1_fill_55 cf_X1 fl_X1_28 hK.1 rfl (by decide) ?_
          refine gz_iconst hC (1) dX1_fill_58 (by decide) ?_
          refine gz_iadd hC dX1_fill_59 ?_
          refine gz_put (j := 5) hC dX1_fill_60 cf_X1 fl_X1_28 hK.1 rfl (by decide) rfl rfl rfl ?_
          obtain ⟨J2, hJ2⟩ : ∃ J2, J2 = gz_up (gz_up (gz_bk J (k + 1) (h * 4) 4 (fun f => nI (tb_cnt (tb_rw d F h) d f))) (k + 2) h (nI (tb_ord (tb_rw d F h) d F))) k 5 (nI (h + 1)) := ⟨_, rfl⟩
          rw [gz_up_at (by omega), gz_bk_at (by omega), h5, nI_1, ← hJ2]
          have k3 : J2 k 3 = nI d := by rw [hJ2, gz_up_oth (by decide), gz_up_at (by omega), gz_bk_at (by omega)]; exact h3
          have k4 : J2 k 4 = nI F := by rw [hJ2, gz_up_oth (by decide), gz_up_at (by omega), gz_bk_at (by omega)]; exact h4
          have k5 : J2 k 5 = nI (h + 1) := by rw [hJ2, gz_up_self]
          have kp : ∀ q, q < h + 1 → ∀ f, f < 4 → J2 (k + 1) (q * 4 + f) = nI (tb_cnt (tb_rw d F q) d f) := by
            intro q hq f hf4
            rw [hJ2, gz_up_at (by omega), gz_up_at (by omega)]
            by_cases e : q = h
            · subst e; exact gz_bk_in hf4
            · rw [gz_bk_out (by omega)]; exact hp q (by omega) f hf4
          have kw : ∀ q, q < h + 1 → J2 (k + 2) q = nI (tb_ord (tb_rw d F q) d F) := by
            intro q hq
            rw [hJ2, gz_up_at (by omega)]
            by_cases e : q = h
            · subst e; exact gz_up_self
            · rw [gz_up_oth e, gz_bk_at (by omega)]; exact hw q (by omega)
          have kz : ∀ q, h + 1 ≤ q → q < 4 → ∀ f, f < 4 → J2 (k + 1) (q * 4 + f) = nI 0 := by
            intro q hq hq4 f hf4
            rw [hJ2, gz_up_at (by omega), gz_up_at (by omega), gz_bk_out (by omega)]
            exact hz q (by omega) hq4 f hf4
          have kr : ∀ i, i < d → J2 (k + 3) i = nI (tb_rw d F h i) := by
            intro i hi
            rw [hJ2, gz_up_at (by omega), gz_up_at (by omega), gz_bk_at (by omega)]
            exact hr i hi
          have kf : ∀ o, o ≠ k → o ≠ k + 1 → o ≠ k + 2 → o ≠ k + 3 → J2 o = I o := by
            intro o a1 a2 a3 a4
            rw [hJ2, gz_up_ne a1, gz_up_ne a3, gz_bk_ne a2]
            exact hf o a1 a2 a3 a4
          refine gz_aload_n hC dX1_fill_63 rfl ?_
          refine gz_callV0 hC dX1_fill_64 ml_X1_41 hK.1 rfl (by decide) (by decide) (Nat.le_of_ble_eq_true rfl) (ct_X1_stepRow hJ _ _ k hK d F (tb_rw d F h) k3 k4 (by omega) (by omega) kr (T1 h (by omega))) (fun v64 M64 hp64 => ?_)
          rcases hp64 with ⟨e1, rfl, rfl⟩ | ⟨i, e1, rfl, rfl⟩
          · refine gz_istore_n hC dX1_fill_67 (by decide) ?_
            refine gz_goto hC 33 dX1_fill_68 (by decide) ?_
            refine gz_lw [(0, .ref (ad k)), (3, .int 0)] ⟨rfl, rfl, trivial⟩ ?_
            refine gz_iload_n hC dX1_fill_33 rfl ?_
            refine gz_if_eq hC 71 dX1_fill_34 (by decide) (fun c34 => ?_) (fun c34 => ?_)
            · exact gz_vret hC dX1_fill_71 ⟨J2, rfl, rfl, ⟨k3, k4, by rw [k5, hi], by rw [← hi]; exact kp, by rw [← hi]; exact kw⟩, kf⟩
            · exact absurd rfl c34
          · refine gz_istore_n hC dX1_fill_67 (by decide) ?_
            refine gz_goto hC 33 dX1_fill_68 (by decide) ?_
            have e2 := T3 h hi
            rw [e2] at e1
            cases e1
    | succ n ih =>
      intro h J x3 hi hx3 h3 h4 h5 hp hw hz hr hf
      subst hx3
      refine gz_iload_n hC dX1_fill_33 rfl ?_
      refine gz_if_eq hC 71 dX1_fill_34 (by decide) (fun c34 => ?_) (fun c34 => ?_)
      · exact absurd c34 (by decide)
      · refine gz_aload_n hC dX1_fill_37 rfl ?_
        refine gz_getI (j := 5) hC dX1_fill_38 cf_X1 fl_X1_28 hK.1 rfl (by decide) ?_
        refine gz_iconst hC (4) dX1_fill_41 (by decide) ?_
        refine gz_icmp_ge hC 71 dX1_fill_42 (by decide) (fun c42 => ?_) (fun c42 => ?_)
        · exact absurd c42 (gz_inle gz_n4 h5 (by omega) (by omega))
        · refine gz_aload_n hC dX1_fill_45 rfl ?_
          refine gz_aload_n hC dX1_fill_46 rfl ?_
          refine gz_getI (j := 5) hC dX1_fill_47 cf_X1 fl_X1_28 hK.1 rfl (by decide) ?_
          refine gz_callV1 hC dX1_fill_50 ml_X1_37 hK.1 rfl (by decide) (by decide) (Nat.le_of_ble_eq_true rfl) (ct_X1_writeHand hJ _ _ k hK h d F (tb_rw d F h) _ h5 (by omega) h3 h4 (by omega) (by omega) hr (T1 h (by omega)) (hz h (Nat.le_refl h) (by omega))) (fun v50 M50 hp50 => ?_)
          obtain ⟨rfl, rfl⟩ := hp50
          refine gz_aload_n hC dX1_fill_53 rfl ?_
          refine gz_dup hC dX1_fill_54 rfl ?_
          refine gz_getI (j := 5) hC dX1_fill_55 cf_X1 fl_X1_28 hK.1 rfl (by decide) ?_
          refine gz_iconst hC (1) dX1_fill_58 (by decide) ?_
          refine gz_iadd hC dX1_fill_59 ?_
          refine gz_put (j := 5) hC dX1_fill_60 cf_X1 fl_X1_28 hK.1 rfl (by decide) rfl rfl rfl ?_
          obtain ⟨J2, hJ2⟩ : ∃ J2, J2 = gz_up (gz_up (gz_bk J (k + 1) (h * 4) 4 (fun f => nI (tb_cnt (tb_rw d F h) d f))) (k + 2) h (nI (tb_ord (tb_rw d F h) d F))) k 5 (nI (h + 1)) := ⟨_, rfl⟩
          rw [gz_up_at (by omega), gz_bk_at (by omega), h5, nI_1, ← hJ2]
          have k3 : J2 k 3 = nI d := by rw [hJ2, gz_up_oth (by decide), gz_up_at (by omega), gz_bk_at (by omega)]; exact h3
          have k4 : J2 k 4 = nI F := by rw [hJ2, gz_up_oth (by decide), gz_up_at (by omega), gz_bk_at (by omega)]; exact h4
          have k5 : J2 k 5 = nI (h + 1) := by rw [hJ2, gz_up_self]
          have kp : ∀ q, q < h + 1 → ∀ f, f < 4 → J2 (k + 1) (q * 4 + f) = nI (tb_cnt (tb_rw d F q) d f) := by
            intro q hq f hf4
            rw [hJ2, gz_up_at (by omega), gz_up_at (by omega)]
            by_cases e : q = h
            · subst e; exact gz_bk_in hf4
            · rw [gz_bk_out (by omega)]; exact hp q (by omega) f hf4
          have kw : ∀ q, q < h + 1 → J2 (k + 2) q = nI (tb_ord (tb_rw d F q) d F) := by
            intro q hq
            rw [hJ2, gz_up_at (by omega)]
            by_cases e : q = h
            · subst e; exact gz_up_self
            · rw [gz_up_oth e, gz_bk_at (by omega)]; exact hw q (by omega)
          have kz : ∀ q, h + 1 ≤ q → q < 4 → ∀ f, f < 4 → J2 (k + 1) (q * 4 + f) = nI 0 := by
            intro q hq hq4 f hf4
            rw [hJ2, gz_up_at (by omega), gz_up_at (by omega), gz_bk_out (by omega)]
            exact hz q (by omega) hq4 f hf4
          have kr : ∀ i, i < d → J2 (k + 3) i = nI (tb_rw d F h i) := by
            intro i hi
            rw [hJ2, gz_up_at (by omega), gz_up_at (by omega), gz_bk_at (by omega)]
            exact hr i hi
          have kf : ∀ o, o ≠ k → o ≠ k + 1 → o ≠ k + 2 → o ≠ k + 3 → J2 o = I o := by
            intro o a1 a2 a3 a4
            rw [hJ2, gz_up_ne a1, gz_up_ne a3, gz_bk_ne a2]
            exact hf o a1 a2 a3 a4
          refine gz_aload_n hC dX1_fill_63 rfl ?_
          refine gz_callV0 hC dX1_fill_64 ml_X1_41 hK.1 rfl (by decide) (by decide) (Nat.le_of_ble_eq_true rfl) (ct_X1_stepRow hJ _ _ k hK d F (tb_rw d F h) k3 k4 (by omega) (by omega) kr (T1 h (by omega))) (fun v64 M64 hp64 => ?_)
          rcases hp64 with ⟨e1, rfl, rfl⟩ | ⟨i, e1, rfl, rfl⟩
          · refine gz_istore_n hC dX1_fill_67 (by decide) ?_
            refine gz_goto hC 33 dX1_fill_68 (by decide) ?_
            have e2 := T2 h (by omega)
            rw [e1] at e2
            cases e2
          · refine gz_istore_n hC dX1_fill_67 (by decide) ?_
            refine gz_goto hC 33 dX1_fill_68 (by decide) ?_
            refine gz_lw [(0, .ref (ad k)), (3, .int 1)] ⟨rfl, rfl, trivial⟩ ?_
            have hid := tb_sta_lt e1
            exact ih (h + 1) _ 1 (by omega) rfl ((gz_bk_at (by omega)).trans k3) ((gz_bk_at (by omega)).trans k4) ((gz_bk_at (by omega)).trans k5) (fun q hq f hf4 => (gz_bk_at (by omega)).trans (kp q hq f hf4)) (fun q hq => (gz_bk_at (by omega)).trans (kw q hq)) (fun q hq hq4 f hf4 => (gz_bk_at (by omega)).trans (kz q hq hq4 f hf4)) (fun j hj => by
              show gz_bk J2 (k + 3) i (d - i) (fun _ => nI (tb_rw d F h i + 1)) (k + 3) j = nI (tb_nx d F (tb_rw d F h) j)
              unfold tb_nx
              rw [e1]
              show _ = nI (if i ≤ j then tb_rw d F h i + 1 else tb_rw d F h j)
              by_cases hij : i ≤ j
              · rw [if_pos hij, show j = i + (j - i) by omega, gz_bk_in (by omega)]
              · rw [if_neg hij, gz_bk_out (by omega)]; exact kr j hj) (fun o a1 a2 a3 a4 => (gz_bk_ne a4).trans (kf o a1 a2 a3 a4))
  refine gz_lw [(0, .ref (ad k)), (3, .int 1)] ⟨rfl, rfl, trivial⟩ ?_
  exact lp (tb_n d F - 1) 0 _ 1 (by omega) rfl (by rw [gz_fi_at (by omega), gz_fi_at (by omega), gz_up_oth (by decide), gz_up_oth (by decide), gz_up_self]; exact hx1) (by rw [gz_fi_at (by omega), gz_fi_at (by omega), gz_up_oth (by decide), gz_up_self]; exact hx2) (by rw [gz_fi_at (by omega), gz_fi_at (by omega), gz_up_self]; rfl) (fun q hq => absurd hq (Nat.not_lt_zero q)) (fun q hq => absurd hq (Nat.not_lt_zero q)) (fun q _ hq4 f hf4 => by rw [gz_fi_at (by omega), gz_fi_in (by omega)]; rfl) (fun i hi => by rw [gz_fi_in (by omega)]; rfl) (fun o a1 a2 a3 a4 => by rw [gz_fi_ne a4, gz_fi_ne a2, gz_up_ne a1, gz_up_ne a1, gz_up_ne a1])
  -- places not laid: [34, 37, 38, 41, 42, 45, 46, 47, 50, 53, 54, 55, 58, 59, 60, 63, 64, 67, 68, 71]
end CT
