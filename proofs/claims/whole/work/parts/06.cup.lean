/-! a cup: its hands, by rows that do not fall -/
def lx_cup (k : Nat) : Prop := lx_lay[k]? = some (.inl (1, [some (k + 1), some (k + 2), some (k + 3), none, none, none])) ∧ lx_lay[k + 1]? = some (.inr (16, 0)) ∧ lx_lay[k + 2]? = some (.inr (4, 0)) ∧ lx_lay[k + 3]? = some (.inr (3, 0))
theorem lx_cup3 : lx_cup 3 := ⟨rfl, rfl, rfl, rfl⟩
theorem lx_cup7 : lx_cup 7 := ⟨rfl, rfl, rfl, rfl⟩
def tb_fac : Nat → Nat
  | 0 => 1
  | n + 1 => (n + 1) * tb_fac n
/-- how many of the first n places of r have f -/
def tb_cnt (r : Nat → Nat) : Nat → Nat → Nat
  | 0, _ => 0
  | n + 1, f => tb_cnt r n f + (if f = r n then 1 else 0)
/-- d! by the factorials of the counts, one face behind the other -/
def tb_ord (r : Nat → Nat) (d : Nat) : Nat → Nat
  | 0 => tb_fac d
  | f + 1 => tb_ord r d f / tb_fac (tb_cnt r d f)
theorem tb_cnt_le (r : Nat → Nat) (f : Nat) : ∀ n, tb_cnt r n f ≤ n
  | 0 => Nat.le_refl 0
  | n + 1 => by
    have h := tb_cnt_le r f n
    unfold tb_cnt
    split <;> omega
theorem tb_fac_pos : ∀ n, 0 < tb_fac n
  | 0 => Nat.one_pos
  | n + 1 => Nat.mul_pos (Nat.succ_pos n) (tb_fac_pos n)
theorem tb_fac3 {n : Nat} (h : n ≤ 3) : tb_fac n ≤ 6 := by
  match n, h with
  | 0, _ => decide
  | 1, _ => decide
  | 2, _ => decide
  | 3, _ => decide
  | n + 4, h => omega
theorem tb_ord_le (r : Nat → Nat) (d : Nat) : ∀ f, tb_ord r d f ≤ tb_fac d
  | 0 => Nat.le_refl _
  | f + 1 => Nat.le_trans (Nat.div_le_self _ _) (tb_ord_le r d f)
/-- a block of a row overwritten -/
def gz_bk {α : Type} (f : Nat → Nat → α) (k a n : Nat) (g : Nat → α) : Nat → Nat → α := fun o => if o = k then (fun j => if a ≤ j ∧ j < a + n then g (j - a) else f o j) else f o
theorem gz_bk_ne {α : Type} {f : Nat → Nat → α} {k a n o : Nat} {g : Nat → α} (h : o ≠ k) : gz_bk f k a n g o = f o := if_neg h
theorem gz_bk_at {α : Type} {f : Nat → Nat → α} {k a n o j : Nat} {g : Nat → α} (h : o ≠ k) : gz_bk f k a n g o j = f o j := by rw [gz_bk_ne h]
theorem gz_up_at {α : Type} {f : Nat → Nat → α} {k j o q : Nat} {v : α} (h : o ≠ k) : gz_up f k j v o q = f o q := by rw [gz_up_ne h]
theorem gz_fi_at {α : Type} {f : Nat → Nat → α} {k n o j : Nat} {v : α} (h : o ≠ k) : gz_fi f k n v o j = f o j := by rw [gz_fi_ne h]
theorem gz_bk_in {α : Type} {f : Nat → Nat → α} {k a n j : Nat} {g : Nat → α} (h : j < n) : gz_bk f k a n g k (a + j) = g j := by
  unfold gz_bk
  rw [if_pos rfl]
  show (if a ≤ a + j ∧ a + j < a + n then g (a + j - a) else f k (a + j)) = g j
  rw [if_pos ⟨by omega, by omega⟩, show a + j - a = j by omega]
theorem gz_bk_out {α : Type} {f : Nat → Nat → α} {k a n j : Nat} {g : Nat → α} (h : j < a ∨ a + n ≤ j) : gz_bk f k a n g k j = f k j := by
  unfold gz_bk
  rw [if_pos rfl]
  exact if_neg (by omega)
theorem gz_bk_0 {α : Type} {f : Nat → Nat → α} {k a n : Nat} {g : Nat → α} (h : ∀ j, j < n → f k (a + j) = g j) : gz_bk f k a n g = f := by
  funext o j
  by_cases ho : o = k
  · subst ho
    by_cases hj : a ≤ j ∧ j < a + n
    · rw [show j = a + (j - a) by omega, gz_bk_in (by omega), h _ (by omega)]
    · exact gz_bk_out (by omega)
  · rw [gz_bk_ne ho]
theorem gz_bk_up {α : Type} {f : Nat → Nat → α} {k a n j : Nat} {g g2 : Nat → α} {v : α} (hj : j < n) (hv : v = g2 j) (hg : ∀ i, i < n → i ≠ j → g2 i = g i) : gz_up (gz_bk f k a n g) k (a + j) v = gz_bk f k a n g2 := by
  funext o q
  by_cases ho : o = k
  · subst ho
    by_cases hq : q = a + j
    · subst hq
      rw [gz_up_self, gz_bk_in hj, hv]
    · rw [gz_up_oth hq]
      by_cases h2 : a ≤ q ∧ q < a + n
      · rw [show q = a + (q - a) by omega, gz_bk_in (by omega), gz_bk_in (by omega), hg _ (by omega) (by omega)]
      · rw [gz_bk_out (by omega), gz_bk_out (by omega)]
  · rw [gz_up_ne ho, gz_bk_ne ho, gz_bk_ne ho]
theorem gz_i1 {x : Int32} {j : Nat} (h : x = nI j) : x + 1 = nI (j + 1) := by rw [h]; exact nI_1 j
theorem gz_ile {x y : Int32} {a b : Nat} (hx : x = nI a) (hy : y = nI b) (h : a ≤ b) (hb : b < 2 ^ 31) : x ≤ y := by rw [hx, hy]; exact nI_le h hb
theorem gz_ilt {x y : Int32} {a b : Nat} (hx : x = nI a) (hy : y = nI b) (h : a < b) (hb : b < 2 ^ 31) : x < y := by rw [hx, hy]; exact nI_lt h hb
theorem gz_inle {x y : Int32} {a b : Nat} (hx : x = nI a) (hy : y = nI b) (h : b < a) (hb : a < 2 ^ 31) : ¬ x ≤ y := by rw [hx, hy]; exact nI_ge h hb
theorem gz_inlt {x y : Int32} {a b : Nat} (hx : x = nI a) (hy : y = nI b) (h : b ≤ a) (hb : a < 2 ^ 31) : ¬ x < y := by rw [hx, hy]; exact nI_nlt h hb
section CT
variable {l : Launch} {D : va_G} {ad : Nat → Nat} {cy : Nat → ClassId}
set_option maxHeartbeats 4000000 in
set_option maxRecDepth 100000 in
theorem ct_X1_factorial (hJ : gz_inj ad lx_lay) (I : Nat → Nat → Int32) (G : Nat → Nat → UInt64) (m0 : Nat) (hm : m0 ≤ 3) (x0 : Int32) (hx : x0 = nI m0) : gz_Ct l D ad cy lx_lay yX1_factorial cX1_factorial 3 (some .int) 0 [.int x0] (I, G) (fun v M1 => v = some (.int (nI (tb_fac m0))) ∧ M1 = (I, G)) := by
  refine gz_met (by decide +kernel) hJ (Nat.le_of_ble_eq_true rfl) ?_
  intro p e s m args below meth c hC
  refine gz_iconst hC (1) dX1_factorial_0 (by decide) ?_
  refine gz_istore_n hC dX1_factorial_1 (by decide) ?_
  refine gz_iconst hC (2) dX1_factorial_2 (by decide) ?_
  refine gz_istore_n hC dX1_factorial_3 (by decide) ?_
  have lp : ∀ (n i : Nat) (y z : Int32) (hi : i + n = m0 - 1) (hy : y = nI (tb_fac (i + 1))) (hz : z = nI (i + 2)), gz_W p l e (gz_rm 0) s m args below meth c D ad cy lx_lay 3 (MQ below (gz_Q D ad cy lx_lay (fun v M1 => v = some (.int (nI (tb_fac m0))) ∧ M1 = (I, G))) args s 0 0 (gz_A ad lx_lay)) (I, G) 4 [(0, .int x0), (1, .int y), (2, .int z)] [] := by
    intro n
    induction n with
    | zero =>
      intro i y z hi hy hz
      refine gz_iload_n hC dX1_factorial_4 rfl ?_
      refine gz_iload_n hC dX1_factorial_5 rfl ?_
      refine gz_icmp_gt hC 19 dX1_factorial_6 (by decide) (fun c6 => ?_) (fun c6 => ?_)
      · refine gz_iload_n hC dX1_factorial_19 rfl ?_
        exact gz_iret hC dX1_factorial_20 ⟨gz_v (by rw [hy]; congr 1; match m0, hi with | 0, hi => (cases (show i = 0 by omega); rfl) | k + 1, hi => (cases (show i = k by omega); rfl)), rfl⟩
      · exact absurd (gz_ilt hx hz (by omega) (by omega)) c6
    | succ n ih =>
      intro i y z hi hy hz
      refine gz_iload_n hC dX1_factorial_4 rfl ?_
      refine gz_iload_n hC dX1_factorial_5 rfl ?_
      refine gz_icmp_gt hC 19 dX1_factorial_6 (by decide) (fun c6 => ?_) (fun c6 => ?_)
      · exact absurd c6 (gz_inlt hx hz (by omega) (by omega))
      · refine gz_iload_n hC dX1_factorial_9 rfl ?_
        refine gz_iload_n hC dX1_factorial_10 rfl ?_
        refine gz_imul hC dX1_factorial_11 ?_
        refine gz_istore_n hC dX1_factorial_12 (by decide) ?_
        refine gz_iinc hC (1) dX1_factorial_13 rfl (by decide) (by decide) ?_
        refine gz_goto hC 4 dX1_factorial_16 (by decide) ?_
        refine gz_lw [(0, .int x0), (1, .int (y * z)), (2, .int (z + 1))] ⟨rfl, rfl, rfl, trivial⟩ ?_
        exact ih (i + 1) _ _ (by omega) (by rw [hy, hz, pk_mul]; congr 1; show _ = (i + 1 + 1) * tb_fac (i + 1); exact Nat.mul_comm _ _) (gz_i1 hz)
  exact gz_lw [(0, .int x0), (1, .int 1), (2, .int 2)] ⟨rfl, rfl, rfl, trivial⟩ (lp (m0 - 1) 0 1 2 (by omega) rfl rfl)
  -- places not laid: [5, 6, 9, 10, 11, 12, 13, 16, 19, 20]
set_option maxHeartbeats 4000000 in
set_option maxRecDepth 100000 in
theorem ct_X1_spotOf (hJ : gz_inj ad lx_lay) (I : Nat → Nat → Int32) (G : Nat → Nat → UInt64) (h f : Nat) (x y : Int32) (hx : x = nI h) (hy : y = nI f) : gz_Ct l D ad cy lx_lay yX1_spotOf cX1_spotOf 2 (some .int) 0 [.int x, .int y] (I, G) (fun v M1 => v = some (.int (nI (h * 4 + f))) ∧ M1 = (I, G)) := by
  refine gz_met (by decide +kernel) hJ (Nat.le_of_ble_eq_true rfl) ?_
  intro p e s m args below meth c hC
  refine gz_iload_n hC dX1_spotOf_0 rfl ?_
  refine gz_iconst hC (4) dX1_spotOf_1 (by decide) ?_
  refine gz_imul hC dX1_spotOf_2 ?_
  refine gz_iload_n hC dX1_spotOf_3 rfl ?_
  refine gz_iadd hC dX1_spotOf_4 ?_
  exact gz_iret hC dX1_spotOf_5 ⟨gz_v (by rw [hx, hy, gz_n4, pk_mul, nI_add]), rfl⟩
set_option maxHeartbeats 4000000 in
set_option maxRecDepth 100000 in
theorem ct_X1_pipsOf (hJ : gz_inj ad lx_lay) (I : Nat → Nat → Int32) (G : Nat → Nat → UInt64) (k : Nat) (hK : lx_cup k) (h f : Nat) (x y : Int32) (hx : x = nI h) (hy : y = nI f) (hh : h < 4) (hf : f < 4) : gz_Ct l D ad cy lx_lay yX1_pipsOf cX1_pipsOf 3 (some .int) 1 [.ref (ad k), .int x, .int y] (I, G) (fun v M1 => v = some (.int (I (k + 1) (h * 4 + f))) ∧ M1 = (I, G)) := by
  refine gz_met (by decide +kernel) hJ (Nat.le_of_ble_eq_true rfl) ?_
  intro p e s m args below meth c hC
  refine gz_aload_n hC dX1_pipsOf_0 rfl ?_
  refine gz_getR (j := 0) hC dX1_pipsOf_1 cf_X1 fl_X1_9 hK.1 rfl (by decide) ?_
  refine gz_iload_n hC dX1_pipsOf_4 rfl ?_
  refine gz_iload_n hC dX1_pipsOf_5 rfl ?_
  refine gz_callS2 hC dX1_pipsOf_6 ml_X1_49 (by decide) (by decide) (Nat.le_of_ble_eq_true rfl) (ct_X1_spotOf hJ _ _ h f _ _ hx hy) (fun v6 M6 hp6 => ?_)
  obtain ⟨rfl, rfl⟩ := hp6
  refine gz_callSN2 hC dX1_pipsOf_9 ml_X1_45 (by decide) (by decide) (Nat.le_of_ble_eq_true rfl) (ct_X7_at hJ _ _ _ 16 (h * 4 + f) hK.2.1 (by omega) _ rfl (by omega)) (fun v9 M9 hp9 => ?_)
  obtain ⟨rfl, rfl⟩ := hp9
  exact gz_iret hC dX1_pipsOf_12 ⟨rfl, rfl⟩
set_option maxHeartbeats 4000000 in
set_option maxRecDepth 100000 in
theorem ct_X1_waysOf (hJ : gz_inj ad lx_lay) (I : Nat → Nat → Int32) (G : Nat → Nat → UInt64) (k : Nat) (hK : lx_cup k) (h : Nat) (x : Int32) (hx : x = nI h) (hh : h < 4) : gz_Ct l D ad cy lx_lay yX1_waysOf cX1_waysOf 2 (some .int) 1 [.ref (ad k), .int x] (I, G) (fun v M1 => v = some (.int (I (k + 2) h)) ∧ M1 = (I, G)) := by
  refine gz_met (by decide +kernel) hJ (Nat.le_of_ble_eq_true rfl) ?_
  intro p e s m args below meth c hC
  refine gz_aload_n hC dX1_waysOf_0 rfl ?_
  refine gz_getR (j := 1) hC dX1_waysOf_1 cf_X1 fl_X1_15 hK.1 rfl (by decide) ?_
  refine gz_iload_n hC dX1_waysOf_4 rfl ?_
  refine gz_callSN2 hC dX1_waysOf_5 ml_X1_45 (by decide) (by decide) (Nat.le_of_ble_eq_true rfl) (ct_X7_at hJ _ _ _ 4 h hK.2.2.1 (by omega) _ hx hh) (fun v5 M5 hp5 => ?_)
  obtain ⟨rfl, rfl⟩ := hp5
  exact gz_iret hC dX1_waysOf_8 ⟨rfl, rfl⟩
set_option maxHeartbeats 4000000 in
set_option maxRecDepth 100000 in
theorem ct_X1_allWays (hJ : gz_inj ad lx_lay) (I : Nat → Nat → Int32) (G : Nat → Nat → UInt64) (k : Nat) (hK : lx_cup k) (d F : Nat) (hd : I k 3 = nI d) (hF : I k 4 = nI F) (hd3 : d < 2 ^ 31) : gz_Ct l D ad cy lx_lay yX1_allWays cX1_allWays 3 (some .int) 0 [.ref (ad k)] (I, G) (fun v M1 => v = some (.int (nI (F ^ d))) ∧ M1 = (I, G)) := by
  refine gz_met (by decide +kernel) hJ (Nat.le_of_ble_eq_true rfl) ?_
  intro p e s m args below meth c hC
  refine gz_iconst hC (1) dX1_allWays_0 (by decide) ?_
  refine gz_istore_n hC dX1_allWays_1 (by decide) ?_
  refine gz_iconst hC (0) dX1_allWays_2 (by decide) ?_
  refine gz_istore_n hC dX1_allWays_3 (by decide) ?_
  have lp : ∀ (n i : Nat) (y z : Int32) (hi : i + n = d) (hy : y = nI (F ^ i)) (hz : z = nI i), gz_W p l e (gz_rm 0) s m args below meth c D ad cy lx_lay 3 (MQ below (gz_Q D ad cy lx_lay (fun v M1 => v = some (.int (nI (F ^ d))) ∧ M1 = (I, G))) args s 0 0 (gz_A ad lx_lay)) (I, G) 4 [(0, .ref (ad k)), (1, .int y), (2, .int z)] [] := by
    intro n
    induction n with
    | zero =>
      intro i y z hi hy hz
      refine gz_iload_n hC dX1_allWays_4 rfl ?_
      refine gz_aload_n hC dX1_allWays_5 rfl ?_
      refine gz_getI (j := 3) hC dX1_allWays_6 cf_X1 fl_X1_21 hK.1 rfl (by decide) ?_
      refine gz_icmp_ge hC 25 dX1_allWays_9 (by decide) (fun c9 => ?_) (fun c9 => ?_)
      · refine gz_iload_n hC dX1_allWays_25 rfl ?_
        exact gz_iret hC dX1_allWays_26 ⟨gz_v (by rw [hy, show i = d by omega]), rfl⟩
      · exact absurd (gz_ile hd hz (by omega) (by omega)) c9
    | succ n ih =>
      intro i y z hi hy hz
      refine gz_iload_n hC dX1_allWays_4 rfl ?_
      refine gz_aload_n hC dX1_allWays_5 rfl ?_
      refine gz_getI (j := 3) hC dX1_allWays_6 cf_X1 fl_X1_21 hK.1 rfl (by decide) ?_
      refine gz_icmp_ge hC 25 dX1_allWays_9 (by decide) (fun c9 => ?_) (fun c9 => ?_)
      · exact absurd c9 (gz_inle hd hz (by omega) (by omega))
      · refine gz_iload_n hC dX1_allWays_12 rfl ?_
        refine gz_aload_n hC dX1_allWays_13 rfl ?_
        refine gz_getI (j := 4) hC dX1_allWays_14 cf_X1 fl_X1_25 hK.1 rfl (by decide) ?_
        refine gz_imul hC dX1_allWays_17 ?_
        refine gz_istore_n hC dX1_allWays_18 (by decide) ?_
        refine gz_iinc hC (1) dX1_allWays_19 rfl (by decide) (by decide) ?_
        refine gz_goto hC 4 dX1_allWays_22 (by decide) ?_
        refine gz_lw [(0, .ref (ad k)), (1, .int (y * I k 4)), (2, .int (z + 1))] ⟨rfl, rfl, rfl, trivial⟩ ?_
        exact ih (i + 1) _ _ (by omega) (by rw [hy, hF, pk_mul, Nat.pow_succ]) (gz_i1 hz)
  exact gz_lw [(0, .ref (ad k)), (1, .int 1), (2, .int 0)] ⟨rfl, rfl, rfl, trivial⟩ (lp d 0 1 0 (by omega) rfl rfl)
  -- places not laid: [5, 6, 9, 12, 13, 14, 17, 18, 19, 22, 25, 26]
set_option maxHeartbeats 4000000 in
set_option maxRecDepth 100000 in
theorem ct_X1_writeHand (hJ : gz_inj ad lx_lay) (I : Nat → Nat → Int32) (G : Nat → Nat → UInt64) (k : Nat) (hK : lx_cup k) (h d F : Nat) (r : Nat → Nat) (x1 : Int32) (hx1 : x1 = nI h) (hh : h < 4) (hd : I k 3 = nI d) (hF : I k 4 = nI F) (hd3 : d ≤ 3) (hF4 : F ≤ 4) (hr : ∀ i, i < d → I (k + 3) i = nI (r i)) (hrF : ∀ i, i < d → r i < F) (h0 : ∀ f, f < 4 → I (k + 1) (h * 4 + f) = nI 0) : gz_Ct l D ad cy lx_lay yX1_writeHand cX1_writeHand 4 none 2 [.ref (ad k), .int x1] (I, G) (fun v M1 => v = none ∧ M1 = (gz_up (gz_bk I (k + 1) (h * 4) 4 (fun f => nI (tb_cnt r d f))) (k + 2) h (nI (tb_ord r d F)), G)) := by
  refine gz_met (by decide +kernel) hJ (Nat.le_of_ble_eq_true rfl) ?_
  intro p e s m args below meth c hC
  refine gz_iconst hC (0) dX1_writeHand_0 (by decide) ?_
  refine gz_istore_n hC dX1_writeHand_1 (by decide) ?_
  have lp : ∀ (n i : Nat) (x2 : Int32) (hi : i + n = d) (hx2 : x2 = nI i), gz_W p l e (gz_rm 2) s m args below meth c D ad cy lx_lay 4 (MQ below (gz_Q D ad cy lx_lay (fun v M1 => v = none ∧ M1 = (gz_up (gz_bk I (k + 1) (h * 4) 4 (fun f => nI (tb_cnt r d f))) (k + 2) h (nI (tb_ord r d F)), G))) args s 0 0 (gz_A ad lx_lay)) (gz_bk I (k + 1) (h * 4) 4 (fun f => nI (tb_cnt r i f)), G) 2 [(0, .ref (ad k)), (1, .int x1), (2, .int x2)] [] := by
    intro n
    induction n with
    | zero =>
      intro i x2 hi hx2
      refine gz_iload_n hC dX1_writeHand_2 rfl ?_
      refine gz_aload_n hC dX1_writeHand_3 rfl ?_
      refine gz_getI (j := 3) hC dX1_writeHand_4 cf_X1 fl_X1_21 hK.1 rfl (by decide) ?_
      refine gz_icmp_ge hC 47 dX1_writeHand_7 (by decide) (fun c7 => ?_) (fun c7 => ?_)
      · refine gz_aload_n hC dX1_writeHand_47 rfl ?_
        refine gz_getI (j := 3) hC dX1_writeHand_48 cf_X1 fl_X1_21 hK.1 rfl (by decide) ?_
        refine gz_callS1 hC dX1_writeHand_51 ml_X1_57 (by decide) (by decide) (Nat.le_of_ble_eq_true rfl) (ct_X1_factorial hJ _ _ d hd3 _ (by exact (gz_bk_at (by omega)).trans hd)) (fun v51 M51 hp51 => ?_)
        obtain ⟨rfl, rfl⟩ := hp51
        refine gz_istore_n hC dX1_writeHand_54 (by decide) ?_
        refine gz_iconst hC (0) dX1_writeHand_55 (by decide) ?_
        refine gz_istore_n hC dX1_writeHand_56 (by decide) ?_
        rw [show i = d by omega]
        have hFb : (gz_bk I (k + 1) (h * 4) 4 (fun f => nI (tb_cnt r d f))) k 4 = nI F := by rw [gz_bk_ne (by omega)]; exact hF
        have lp2 : ∀ (n i : Nat) (x2 x3 : Int32) (hi : i + n = F) (hx2 : x2 = nI (tb_ord r d i)) (hx3 : x3 = nI i), gz_W p l e (gz_rm 2) s m args below meth c D ad cy lx_lay 4 (MQ below (gz_Q D ad cy lx_lay (fun v M1 => v = none ∧ M1 = (gz_up (gz_bk I (k + 1) (h * 4) 4 (fun f => nI (tb_cnt r d f))) (k + 2) h (nI (tb_ord r d F)), G))) args s 0 0 (gz_A ad lx_lay)) (gz_bk I (k + 1) (h * 4) 4 (fun f => nI (tb_cnt r d f)), G) 57 [(0, .ref (ad k)), (1, .int x1), (2, .int x2), (3, .int x3)] [] := by
          intro n
          induction n with
          | zero =>
            intro i x2 x3 hi hx2 hx3
            refine gz_iload_n hC dX1_writeHand_57 rfl ?_
            refine gz_aload_n hC dX1_writeHand_58 rfl ?_
            refine gz_getI (j := 4) hC dX1_writeHand_59 cf_X1 fl_X1_25 hK.1 rfl (by decide) ?_
            refine gz_icmp_ge hC 85 dX1_writeHand_62 (by decide) (fun c62 => ?_) (fun c62 => ?_)
            · refine gz_aload_n hC dX1_writeHand_85 rfl ?_
              refine gz_getR (j := 1) hC dX1_writeHand_86 cf_X1 fl_X1_15 hK.1 rfl (by decide) ?_
              refine gz_iload_n hC dX1_writeHand_89 rfl ?_
              refine gz_iload_n hC dX1_writeHand_90 rfl ?_
              refine gz_callSN3 hC dX1_writeHand_91 ml_X1_53 (by decide) (by decide) (Nat.le_of_ble_eq_true rfl) (ct_X7_put hJ _ _ _ 4 h hK.2.2.1 (by omega) _ _ hx1 hh) (fun v91 M91 hp91 => ?_)
              obtain ⟨rfl, rfl⟩ := hp91
              exact gz_vret hC dX1_writeHand_94 ⟨rfl, by rw [hx2, show i = F by omega]⟩
            · exact absurd (gz_ile hFb hx3 (by omega) (by omega)) c62
          | succ n ih =>
            intro i x2 x3 hi hx2 hx3
            refine gz_iload_n hC dX1_writeHand_57 rfl ?_
            refine gz_aload_n hC dX1_writeHand_58 rfl ?_
            refine gz_getI (j := 4) hC dX1_writeHand_59 cf_X1 fl_X1_25 hK.1 rfl (by decide) ?_
            refine gz_icmp_ge hC 85 dX1_writeHand_62 (by decide) (fun c62 => ?_) (fun c62 => ?_)
            · exact absurd c62 (gz_inle hFb hx3 (by omega) (by omega))
            · refine gz_iload_n hC dX1_writeHand_65 rfl ?_
              refine gz_aload_n hC dX1_writeHand_66 rfl ?_
              refine gz_iload_n hC dX1_writeHand_67 rfl ?_
              refine gz_iload_n hC dX1_writeHand_68 rfl ?_
              refine gz_callV2 hC dX1_writeHand_69 ml_X1_61 hK.1 rfl (by decide) (by decide) (Nat.le_of_ble_eq_true rfl) (ct_X1_pipsOf hJ _ _ k hK h i _ _ hx1 hx3 hh (by omega)) (fun v69 M69 hp69 => ?_)
              obtain ⟨rfl, rfl⟩ := hp69
              refine gz_callS1 hC dX1_writeHand_72 ml_X1_57 (by decide) (by decide) (Nat.le_of_ble_eq_true rfl) (ct_X1_factorial hJ _ _ (tb_cnt r d i) (Nat.le_trans (tb_cnt_le r i d) hd3) _ (by exact gz_bk_in (by omega))) (fun v72 M72 hp72 => ?_)
              obtain ⟨rfl, rfl⟩ := hp72
              refine gz_callSN2 hC dX1_writeHand_75 ml_X1_64 (by decide) (by decide) (Nat.le_of_ble_eq_true rfl) (ct_X7_cut hJ _ _ _ _ (tb_ord r d i) (tb_fac (tb_cnt r d i)) hx2 rfl (by have := tb_ord_le r d i; have := tb_fac3 hd3; omega) (tb_fac_pos _) (by have := tb_fac3 (Nat.le_trans (tb_cnt_le r i d) hd3); omega)) (fun v75 M75 hp75 => ?_)
              obtain ⟨rfl, rfl⟩ := hp75
              refine gz_istore_n hC dX1_writeHand_78 (by decide) ?_
              refine gz_iinc hC (1) dX1_writeHand_79 rfl (by decide) (by decide) ?_
              refine gz_goto hC 57 dX1_writeHand_82 (by decide) ?_
              refine gz_lw [(0, .ref (ad k)), (1, .int x1), (2, .int (nI (tb_ord r d i / tb_fac (tb_cnt r d i)))), (3, .int (x3 + 1))] ⟨rfl, rfl, rfl, rfl, trivial⟩ ?_
              exact ih (i + 1) _ _ (by omega) rfl (gz_i1 hx3)
        exact gz_lw [(0, .ref (ad k)), (1, .int x1), (2, .int (nI (tb_fac d))), (3, .int 0)] ⟨rfl, rfl, rfl, rfl, trivial⟩ (lp2 F 0 _ _ (by omega) rfl rfl)
      · exact absurd (gz_ile (by exact (gz_bk_at (by omega)).trans hd) hx2 (by omega) (by omega)) c7
    | succ n ih =>
      intro i x2 hi hx2
      refine gz_iload_n hC dX1_writeHand_2 rfl ?_
      refine gz_aload_n hC dX1_writeHand_3 rfl ?_
      refine gz_getI (j := 3) hC dX1_writeHand_4 cf_X1 fl_X1_21 hK.1 rfl (by decide) ?_
      refine gz_icmp_ge hC 47 dX1_writeHand_7 (by decide) (fun c7 => ?_) (fun c7 => ?_)
      · exact absurd c7 (gz_inle (by exact (gz_bk_at (by omega)).trans hd) hx2 (by omega) (by omega))
      · refine gz_iload_n hC dX1_writeHand_10 rfl ?_
        refine gz_aload_n hC dX1_writeHand_11 rfl ?_
        refine gz_getR (j := 2) hC dX1_writeHand_12 cf_X1 fl_X1_18 hK.1 rfl (by decide) ?_
        refine gz_iload_n hC dX1_writeHand_15 rfl ?_
        refine gz_callSN2 hC dX1_writeHand_16 ml_X1_45 (by decide) (by decide) (Nat.le_of_ble_eq_true rfl) (ct_X7_at hJ _ _ _ 3 i hK.2.2.2 (by omega) _ hx2 (by omega)) (fun v16 M16 hp16 => ?_)
        obtain ⟨rfl, rfl⟩ := hp16
        refine gz_callS2 hC dX1_writeHand_19 ml_X1_49 (by decide) (by decide) (Nat.le_of_ble_eq_true rfl) (ct_X1_spotOf hJ _ _ h (r i) _ _ hx1 (by exact (gz_bk_at (by omega)).trans (hr i (by omega)))) (fun v19 M19 hp19 => ?_)
        obtain ⟨rfl, rfl⟩ := hp19
        refine gz_istore_n hC dX1_writeHand_22 (by decide) ?_
        refine gz_aload_n hC dX1_writeHand_23 rfl ?_
        refine gz_getR (j := 0) hC dX1_writeHand_24 cf_X1 fl_X1_9 hK.1 rfl (by decide) ?_
        refine gz_iload_n hC dX1_writeHand_27 rfl ?_
        refine gz_aload_n hC dX1_writeHand_28 rfl ?_
        refine gz_getR (j := 0) hC dX1_writeHand_29 cf_X1 fl_X1_9 hK.1 rfl (by decide) ?_
        refine gz_iload_n hC dX1_writeHand_32 rfl ?_
        have hri := hrF i (by omega)
        refine gz_callSN2 hC dX1_writeHand_33 ml_X1_45 (by decide) (by decide) (Nat.le_of_ble_eq_true rfl) (ct_X7_at hJ _ _ _ 16 (h * 4 + r i) hK.2.1 (by omega) _ rfl (by omega)) (fun v33 M33 hp33 => ?_)
        obtain ⟨rfl, rfl⟩ := hp33
        refine gz_iconst hC (1) dX1_writeHand_36 (by decide) ?_
        refine gz_iadd hC dX1_writeHand_37 ?_
        refine gz_callSN3 hC dX1_writeHand_38 ml_X1_53 (by decide) (by decide) (Nat.le_of_ble_eq_true rfl) (ct_X7_put hJ _ _ _ 16 (h * 4 + r i) hK.2.1 (by omega) _ _ rfl (by omega)) (fun v38 M38 hp38 => ?_)
        obtain ⟨rfl, rfl⟩ := hp38
        rw [gz_bk_in (show r i < 4 by omega)]
        rw [gz_bk_up (g2 := fun f => nI (tb_cnt r (i + 1) f)) (by omega) (by show _ = nI (tb_cnt r i (r i) + (if r i = r i then 1 else 0)); rw [if_pos rfl]; exact nI_1 _) (fun q _ hq => by show nI (tb_cnt r i q + (if q = r i then 1 else 0)) = _; rw [if_neg hq]; rfl)]
        refine gz_iinc hC (1) dX1_writeHand_41 rfl (by decide) (by decide) ?_
        refine gz_goto hC 2 dX1_writeHand_44 (by decide) ?_
        refine gz_lw [(0, .ref (ad k)), (1, .int x1), (2, .int (x2 + 1))] ⟨rfl, rfl, rfl, trivial⟩ ?_
        exact ih (i + 1) _ (by omega) (gz_i1 hx2)
  have h9 := lp d 0 0 (by omega) rfl
  rw [gz_bk_0 (g := fun f => nI (tb_cnt r 0 f)) (fun j hj => h0 j hj)] at h9
  exact gz_lw [(0, .ref (ad k)), (1, .int x1), (2, .int 0)] ⟨rfl, rfl, rfl, trivial⟩ h9
  -- places not laid: [3, 4, 7, 10, 11, 12, 15, 16, 19, 22, 23, 24, 27, 28, 29, 32, 33, 36, 37, 38, 41, 44, 47, 48, 51, 54, 55, 56, 57, 58, 59, 62, 65, 66, 67, 68, 69, 72, 75, 78, 79, 82, 85, 86, 89, 90, 91, 94]
end CT
