/-! the model: the best answer, a stack in rows -/
def mr_J (a : Nat) (I J : Nat → Nat → Int32) : Prop := ∀ o j, (o ≠ 9 ∨ j < a) → (o ≠ 10 ∨ j < a) → (o ≠ 12 ∨ j < a) → (o ≠ 13 ∨ j < a) → J o j = I o j
def mr_H (a b : Nat) (G H : Nat → Nat → UInt64) : Prop := ∀ o j, (o ≠ 8 ∨ j < a) → (o ≠ 11 ∨ j < b) → H o j = G o j
theorem mr_J_0 {a : Nat} {I : Nat → Nat → Int32} : mr_J a I I := fun _ _ _ _ _ _ => rfl
theorem mr_H_0 {a b : Nat} {G : Nat → Nat → UInt64} : mr_H a b G G := fun _ _ _ _ => rfl
theorem mr_J_t {a b : Nat} {I J K : Nat → Nat → Int32} (h : mr_J a I J) (k : mr_J b J K) (hab : a ≤ b) : mr_J a I K := fun o j h1 h2 h3 h4 => (k o j (by omega) (by omega) (by omega) (by omega)).trans (h o j h1 h2 h3 h4)
theorem mr_H_t {a b a2 b2 : Nat} {I J K : Nat → Nat → UInt64} (h : mr_H a b I J) (k : mr_H a2 b2 J K) (ha : a ≤ a2) (hb : b ≤ b2) : mr_H a b I K := fun o j h1 h2 => (k o j (by omega) (by omega)).trans (h o j h1 h2)
theorem mr_H_w {a b a2 b2 : Nat} {I J : Nat → Nat → UInt64} (h : mr_H a2 b2 I J) (ha : a ≤ a2) (hb : b ≤ b2) : mr_H a b I J := fun o j h1 h2 => h o j (by omega) (by omega)
theorem mr_J_o {a : Nat} {I J : Nat → Nat → Int32} (h : mr_J a I J) (o : Nat) (h1 : o ≠ 9) (h2 : o ≠ 10) (h3 : o ≠ 12) (h4 : o ≠ 13) : J o = I o := funext (fun j => h o j (Or.inl h1) (Or.inl h2) (Or.inl h3) (Or.inl h4))
theorem mr_J_up {a k j : Nat} {v : Int32} {I J : Nat → Nat → Int32} (h : mr_J a I J) (hk : k = 9 ∨ k = 10 ∨ k = 12 ∨ k = 13) (hj : a ≤ j) : mr_J a I (gz_up J k j v) := fun o q h1 h2 h3 h4 => by rw [gz_up2 (by omega)]; exact h o q h1 h2 h3 h4
theorem mr_H_up {a b j : Nat} {v : UInt64} {I J : Nat → Nat → UInt64} (h : mr_H a b I J) (hj : b ≤ j) : mr_H a b I (gz_up J 11 j v) := fun o q h1 h2 => by
  by_cases e : o = 11
  · subst e; exact (gz_up_oth (by omega)).trans (h 11 q h1 h2)
  · exact (gz_up_at e).trans (h o q h1 h2)
theorem xm_mr {d0 d1 F : Nat} {w : Bool} {a : Nat} {I J : Nat → Nat → Int32} (h : xm_tab d0 d1 F w I) (k : mr_J a I J) : xm_tab d0 d1 F w J := xm_tab_fr h (fun j _ => by rw [mr_J_o k 0 (by decide) (by decide) (by decide) (by decide)]) (mr_J_o k 1 (by decide) (by decide) (by decide) (by decide)) (mr_J_o k 2 (by decide) (by decide) (by decide) (by decide)) (mr_J_o k 3 (by decide) (by decide) (by decide) (by decide))
def an_oh (nO bids : Nat) (t : Nat → Nat → Bool) (S : Nat → Nat → Nat → UInt64) (n la : Nat) (R : Nat → UInt64) : Nat → UInt64 := an_h (fun q => an_any (an_R S R la q) nO) (fun a => an_cs (t la) (an_R S R la 0) a nO) (fun q => an_V nO bids t S n true q (an_R S R la q)) la
/-- a node at a depth, its moves below q done -/
def mr_n (nO bids : Nat) (t : Nat → Nat → Bool) (S : Nat → Nat → Nat → UInt64) (n : Nat) (own : Bool) (la dp q : Nat) (R : Nat → UInt64) (I : Nat → Nat → Int32) (G : Nat → Nat → UInt64) : Prop :=
  I 9 dp = nI la - 1 ∧ I 10 dp = nI q - 1 ∧ (∀ k, k < nO → G 8 (4 * dp + k) = R k) ∧ (own = true → I 13 dp = gz_b (an_o (an_ow nO bids t S n la R) la q).1 ∧ I 12 dp = nI (an_o (an_ow nO bids t S n la R) la q).2.2 - 1 ∧ G 11 dp = (an_o (an_ow nO bids t S n la R) la q).2.1) ∧ (own = false → G 11 dp = an_oh nO bids t S n la R q)
section MR
variable {nO bids n la dp q : Nat} {t : Nat → Nat → Bool} {S : Nat → Nat → Nat → UInt64} {R : Nat → UInt64} {I J : Nat → Nat → Int32} {G H : Nat → Nat → UInt64} {own : Bool}
theorem mr_n_fr (hn : nO ≤ 4) (h : mr_n nO bids t S n own la dp q R I G) (hI : mr_J (dp + 1) I J) (hG : mr_H (4 * (dp + 1)) (dp + 1) G H) : mr_n nO bids t S n own la dp q R J H := by
  obtain ⟨a, b, c, d, e⟩ := h
  have g : ∀ o, J o dp = I o dp := fun o => hI o dp (Or.inr (by omega)) (Or.inr (by omega)) (Or.inr (by omega)) (Or.inr (by omega))
  have g2 : H 11 dp = G 11 dp := hG 11 dp (Or.inl (by decide)) (Or.inr (by omega))
  exact ⟨(g 9).trans a, (g 10).trans b, fun k hk => (hG 8 _ (Or.inr (by omega)) (Or.inl (by decide))).trans (c k hk), fun ho => ⟨(g 13).trans (d ho).1, (g 12).trans (d ho).2.1, g2.trans (d ho).2.2⟩, fun ho => g2.trans (e ho)⟩
theorem mr_skip (h : mr_n nO bids t S n own la dp q R I G) (hmf : tb_mf la q = false) : mr_n nO bids t S n own la dp (q + 1) R (gz_up I 10 dp (I 10 dp + 1)) G := by
  obtain ⟨a, b, c, d, e⟩ := h
  have h1 : ∀ W, an_o W la (q + 1) = an_o W la q := fun W => by
    show cond (tb_mf la q && _) _ _ = _
    rw [hmf]; rfl
  have h2 : an_oh nO bids t S n la R (q + 1) = an_oh nO bids t S n la R q := by
    show cond (tb_mf la q && _) _ _ = _
    rw [hmf]; rfl
  refine ⟨(gz_up_at (by decide)).trans a, by rw [gz_up_self]; exact nM_s b, c, fun ho => ?_, fun ho => by rw [h2]; exact e ho⟩
  rw [h1, gz_up_at (by decide), gz_up_at (by decide)]
  exact d ho
theorem mr_own (h : mr_n nO bids t S n true la dp q R I G) (hmf : tb_mf la q = true) {v : UInt64} (hv : v = an_ow nO bids t S n la R q) {I1 : Nat → Nat → Int32} {G1 : Nat → Nat → UInt64} (hM : (I1, G1) = cond (!(an_o (an_ow nO bids t S n la R) la q).1 || fp_gt v (G 11 dp)) (gz_up (gz_up I 13 dp 1) 12 dp (I 10 dp), gz_up G 11 dp v) (I, G)) : mr_n nO bids t S n true la dp (q + 1) R (gz_up I1 10 dp (I1 10 dp + 1)) G1 ∧ mr_J dp I (gz_up I1 10 dp (I1 10 dp + 1)) ∧ mr_H (4 * (dp + 1)) dp G G1 := by
  obtain ⟨a, b, c, d, e⟩ := h
  obtain ⟨d1, d2, d3⟩ := d rfl
  have h1 : an_o (an_ow nO bids t S n la R) la (q + 1) = cond (!(an_o (an_ow nO bids t S n la R) la q).1 || fp_gt v (G 11 dp)) (true, v, q) (an_o (an_ow nO bids t S n la R) la q) := by
    rw [d3, hv]
    show cond (tb_mf la q && _) _ _ = _
    rw [hmf]; rfl
  cases hc : (!(an_o (an_ow nO bids t S n la R) la q).1 || fp_gt v (G 11 dp)) with
  | true =>
    rw [hc] at hM h1
    cases hM
    refine ⟨⟨by rw [gz_up_at (by decide), gz_up_at (by decide), gz_up_at (by decide)]; exact a, by rw [gz_up_self, gz_up_at (by decide), gz_up_at (by decide)]; exact nM_s b, fun k hk => by rw [gz_up_at (by decide)]; exact c k hk, fun _ => ?_, fun z => by cases z⟩, mr_J_up (mr_J_up (mr_J_up mr_J_0 (by decide) (Nat.le_refl _)) (by decide) (Nat.le_refl _)) (by decide) (Nat.le_refl _), mr_H_up mr_H_0 (Nat.le_refl _)⟩
    rw [h1]
    refine ⟨by rw [gz_up_at (by decide), gz_up_at (by decide), gz_up_self]; rfl, by rw [gz_up_at (by decide), gz_up_self]; exact b, gz_up_self⟩
  | false =>
    rw [hc] at hM h1
    cases hM
    refine ⟨⟨(gz_up_at (by decide)).trans a, by rw [gz_up_self]; exact nM_s b, c, fun _ => ?_, fun z => by cases z⟩, mr_J_up mr_J_0 (by decide) (Nat.le_refl _), mr_H_0⟩
    rw [h1, gz_up_at (by decide), gz_up_at (by decide)]
    exact ⟨d1, d2, d3⟩
theorem mr_oth (hn : nO ≤ 4) (h : mr_n nO bids t S n false la dp q R I G) (h11 : H 11 dp = an_oh nO bids t S n la R (q + 1)) (hG : mr_H (4 * (dp + 1)) dp G H) : mr_n nO bids t S n false la dp (q + 1) R (gz_up I 10 dp (I 10 dp + 1)) H := by
  obtain ⟨a, b, c, d, e⟩ := h
  exact ⟨(gz_up_at (by decide)).trans a, by rw [gz_up_self]; exact nM_s b, fun k hk => (hG 8 _ (Or.inr (by omega)) (Or.inl (by decide))).trans (c k hk), fun z => (by cases z), fun _ => h11⟩
theorem an_oh_f (h : (tb_mf la q && an_any (an_R S R la q) nO) = false) : an_oh nO bids t S n la R (q + 1) = an_oh nO bids t S n la R q := by
  show cond (tb_mf la q && an_any (an_R S R la q) nO) _ _ = _
  rw [h]; rfl
theorem an_oh_t (h : (tb_mf la q && an_any (an_R S R la q) nO) = true) (hq : ¬ q = 0) : an_oh nO bids t S n la R (q + 1) = FP.dadd (an_oh nO bids t S n la R q) (an_V nO bids t S n true q (an_R S R la q)) := by
  show cond (tb_mf la q && an_any (an_R S R la q) nO) (if q = 0 then _ else _) _ = _
  rw [h, if_neg hq]; rfl
theorem an_oh_0 : an_oh nO bids t S n la R 1 = cond (tb_mf la 0 && an_any (an_R S R la 0) nO) (an_cs (t la) (an_R S R la 0) 0 nO) 0 := rfl
end MR
section CT
variable {l : Launch} {D : va_G} {ad : Nat → Nat} {cy : Nat → ClassId}
set_option maxHeartbeats 4000000 in
set_option maxRecDepth 100000 in
theorem ct_X8_answerOf (hJ : gz_inj ad lm_lay) (I : Nat → Nat → Int32) (G : Nat → Nat → UInt64) (d0 d1 F : Nat) (w : Bool) (hO : cf_ok d0 d1 F) (hX : xm_tab d0 d1 F w I) (pl plan own first lt : Nat) (Rt : Nat → UInt64) (Kt : Nat) (hp : pl < 2) (hpn : plan < 4) (hw : wt_ok (I 4)) (ho : own < tb_n (tb_d d0 d1 pl) F) (hfl : first ≤ lt) (hla : lt ≤ ((d0 + d1) * F)) (hK : 1024 ≤ Kt) (hK2 : Kt ≤ 1400) (hRb : ∀ k, k < (an_nO d0 d1 F pl) → fp_b Kt (Rt k)) (e9 : I 9 first = nI lt - 1) (e10 : I 10 first = -1) (e12 : I 12 first = -1) (e13 : I 13 first = 0) (e11 : G 11 first = 0) (hR : ∀ k, k < (an_nO d0 d1 F pl) → G 8 (4 * first + k) = Rt k) (x1 x2 x3 x4 : Int32) (hx1 : x1 = nI pl) (hx2 : x2 = nI plan) (hx3 : x3 = nI own) (hx4 : x4 = nI first) : gz_Ct l D ad cy lm_lay yX8_answerOf cX8_answerOf 11 (some .double) 7 [.ref (ad 0), .int x1, .int x2, .int x3, .int x4] (I, G) (fun v M1 => ∃ I1 G1, v = some (.double (an_V (an_nO d0 d1 F pl) ((d0 + d1) * F) (an_t d0 d1 F w pl own) (an_S (I 4) d0 d1 F plan pl) 9 (decide (first % 2 = pl)) lt Rt)) ∧ M1 = (I1, G1) ∧ mr_J first I I1 ∧ (first % 2 = pl → I1 12 first = nI (an_best (an_nO d0 d1 F pl) ((d0 + d1) * F) (an_t d0 d1 F w pl own) (an_S (I 4) d0 d1 F plan pl) 8 lt Rt) - 1)) := by
  have hA := an_S_ok (plan := plan) hw hO hpn hp
  have hn4 := hA.1
  have Bd := cf_bids hO
  refine gz_met (by decide +kernel) hJ (Nat.le_of_ble_eq_true rfl) ?_
  intro p e s m args below meth c hC
  refine gz_iload hC dX8_answerOf_0 rfl ?_
  refine gz_istore hC dX8_answerOf_2 (by decide) ?_
  refine gz_iconst hC (0) dX8_answerOf_4 (by decide) ?_
  refine gz_istore hC dX8_answerOf_5 (by decide) ?_
  have run : ∀ (N : Nat), ∀ (dp la : Nat) (R : Nat → UInt64) (K : Nat) (J1 : Nat → Nat → Int32) (J2 : Nat → Nat → UInt64) (x5 : Int32) (hx5 : x5 = nI dp) (hfd : first ≤ dp) (hla : la ≤ ((d0 + d1) * F)) (hn : ((d0 + d1) * F) + 1 ≤ la + N) (hdp : dp ≤ la) (hK : 1024 ≤ K) (hKn : K + 8 + 60 * N ≤ 1990) (hRb : ∀ k, k < (an_nO d0 d1 F pl) → fp_b K (R k)) (hXj : xm_tab d0 d1 F w J1) (h4 : J1 4 = I 4) (e9 : J1 9 dp = nI la - 1) (e10 : J1 10 dp = -1) (e12 : J1 12 dp = -1) (e13 : J1 13 dp = 0) (e11 : J2 11 dp = 0) (hR : ∀ k, k < (an_nO d0 d1 F pl) → J2 8 (4 * dp + k) = R k) (kk : ∀ K1 K2, K1 10 dp = nI (((d0 + d1) * F) + 1) - 1 → K2 11 dp = an_V (an_nO d0 d1 F pl) ((d0 + d1) * F) (an_t d0 d1 F w pl own) (an_S (I 4) d0 d1 F plan pl) N (decide (dp % 2 = pl)) la R → (dp % 2 = pl → 1 ≤ N → K1 12 dp = nI (an_best (an_nO d0 d1 F pl) ((d0 + d1) * F) (an_t d0 d1 F w pl own) (an_S (I 4) d0 d1 F plan pl) (N - 1) la R) - 1) → mr_J dp J1 K1 → mr_H (4 * (dp + 1)) dp J2 K2 → gz_W p l e (gz_rm 7) s m args below meth c D ad cy lm_lay 11 (MQ below (gz_Q D ad cy lm_lay (fun v M1 => ∃ I1 G1, v = some (.double (an_V (an_nO d0 d1 F pl) ((d0 + d1) * F) (an_t d0 d1 F w pl own) (an_S (I 4) d0 d1 F plan pl) 9 (decide (first % 2 = pl)) lt Rt)) ∧ M1 = (I1, G1) ∧ mr_J first I I1 ∧ (first % 2 = pl → I1 12 first = nI (an_best (an_nO d0 d1 F pl) ((d0 + d1) * F) (an_t d0 d1 F w pl own) (an_S (I 4) d0 d1 F plan pl) 8 lt Rt) - 1))) args s 0 0 (gz_A ad lm_lay)) (K1, K2) 7 [(0, .ref (ad 0)), (1, .int x1), (2, .int x2), (3, .int x3), (4, .int x4), (5, .int x5), (6, .int 0)] []), gz_W p l e (gz_rm 7) s m args below meth c D ad cy lm_lay 11 (MQ below (gz_Q D ad cy lm_lay (fun v M1 => ∃ I1 G1, v = some (.double (an_V (an_nO d0 d1 F pl) ((d0 + d1) * F) (an_t d0 d1 F w pl own) (an_S (I 4) d0 d1 F plan pl) 9 (decide (first % 2 = pl)) lt Rt)) ∧ M1 = (I1, G1) ∧ mr_J first I I1 ∧ (first % 2 = pl → I1 12 first = nI (an_best (an_nO d0 d1 F pl) ((d0 + d1) * F) (an_t d0 d1 F w pl own) (an_S (I 4) d0 d1 F plan pl) 8 lt Rt) - 1))) args s 0 0 (gz_A ad lm_lay)) (J1, J2) 7 [(0, .ref (ad 0)), (1, .int x1), (2, .int x2), (3, .int x3), (4, .int x4), (5, .int x5), (6, .int 0)] [] := by
    intro N
    induction N with
    | zero =>
      intro dp la R K J1 J2 x5 hx5 hfd hla hn hdp hK hKn hRb hXj h4 e9 e10 e12 e13 e11 hR kk
      exact absurd hn (by omega)
    | succ n ihn =>
      intro dp la R K J1 J2 x5 hx5 hfd hla hn hdp hK hKn hRb hXj h4 e9 e10 e12 e13 e11 hR kk
      have hC0 : fp_b (K + 35 + 8 + 60 * n) ((fun a => an_cs ((an_t d0 d1 F w pl own) la) (an_R (an_S (I 4) d0 d1 F plan pl) R la 0) a (an_nO d0 d1 F pl)) 0) := fp_b_mono (an_cs_b (fp_b_mono fp_b_0 (show 1 ≤ K + 35 by omega)) (an_nO d0 d1 F pl) (an_R_b hA hK (by omega) hRb hla (Nat.zero_le _)) (by omega)) (by omega)
      have hhb : ∀ q, q ≤ ((d0 + d1) * F) + 1 → fp_b (K + 35 + 8 + 60 * n + 2 * q) (an_oh (an_nO d0 d1 F pl) ((d0 + d1) * F) (an_t d0 d1 F w pl own) (an_S (I 4) d0 d1 F plan pl) n la R q) := fun q hq => an_h_b (by omega) hC0 q (fun q2 hq2 _ _ => an_V_b hA n true q2 _ (K + 35) (by omega) (by omega) (by omega) (an_R_b hA hK (by omega) hRb hla (by omega))) (by omega)
      have step : ∀ (r q : Nat) (J1b : Nat → Nat → Int32) (J2b : Nat → Nat → UInt64) (hi : q + r = ((d0 + d1) * F) + 1) (hN : mr_n (an_nO d0 d1 F pl) ((d0 + d1) * F) (an_t d0 d1 F w pl own) (an_S (I 4) d0 d1 F plan pl) n (decide (dp % 2 = pl)) la dp q R J1b J2b) (hJb : mr_J dp J1 J1b) (hHb : mr_H (4 * (dp + 1)) dp J2 J2b), gz_W p l e (gz_rm 7) s m args below meth c D ad cy lm_lay 11 (MQ below (gz_Q D ad cy lm_lay (fun v M1 => ∃ I1 G1, v = some (.double (an_V (an_nO d0 d1 F pl) ((d0 + d1) * F) (an_t d0 d1 F w pl own) (an_S (I 4) d0 d1 F plan pl) 9 (decide (first % 2 = pl)) lt Rt)) ∧ M1 = (I1, G1) ∧ mr_J first I I1 ∧ (first % 2 = pl → I1 12 first = nI (an_best (an_nO d0 d1 F pl) ((d0 + d1) * F) (an_t d0 d1 F w pl own) (an_S (I 4) d0 d1 F plan pl) 8 lt Rt) - 1))) args s 0 0 (gz_A ad lm_lay)) (J1b, J2b) 7 [(0, .ref (ad 0)), (1, .int x1), (2, .int x2), (3, .int x3), (4, .int x4), (5, .int x5), (6, .int 0)] [] := by
        intro r
        induction r with
        | zero =>
          intro q J1b J2b hi hN hJb hHb
          rw [show q = ((d0 + d1) * F) + 1 by omega] at hN
          refine kk J1b J2b hN.2.1 ?_ (fun hown _ => ?_) hJb hHb
          · by_cases hown : dp % 2 = pl
            · rw [decide_eq_true hown] at hN ⊢
              exact (hN.2.2.2.1 rfl).2.2
            · rw [decide_eq_false hown] at hN ⊢
              exact hN.2.2.2.2 rfl
          · rw [decide_eq_true hown] at hN
            exact (hN.2.2.2.1 rfl).2.1
        | succ r ihr =>
          intro q J1b J2b hi hN hJb hHb
          have hXb := xm_mr hXj hJb
          have h4b : J1b 4 = I 4 := (mr_J_o hJb 4 (by decide) (by decide) (by decide) (by decide)).trans h4
          refine gz_iload hC dX8_answerOf_7 rfl ?_
          refine gz_if_ne hC 283 dX8_answerOf_9 (by decide) (fun c9 => ?_) (fun c9 => ?_)
          · exact absurd rfl c9
          · refine gz_aload_n hC dX8_answerOf_12 rfl ?_
            refine gz_getR (j := 20) hC dX8_answerOf_13 cf_X8 fl_X8_48 rfl rfl (by decide) ?_
            refine gz_iload hC dX8_answerOf_16 rfl ?_
            refine gz_iald hC dX8_answerOf_18 rfl (by rw [hx5]; exact vp_in_nI (by omega) (by decide)) ?_
            rw [show x5.toNatClampNeg = dp by rw [hx5, nI_clamp (by omega)]]
            obtain ⟨x7, hx7e⟩ : ∃ z, z = J1b 10 dp := ⟨_, rfl⟩
            have hx7 : x7 = nI q - 1 := hx7e.trans hN.2.1
            rw [← hx7e]
            refine gz_istore hC dX8_answerOf_19 (by decide) ?_
            refine gz_iload hC dX8_answerOf_21 rfl ?_
            refine gz_iconst hC (2) dX8_answerOf_23 (by decide) ?_
            refine gz_irem hC dX8_answerOf_24 (by decide) ?_
            obtain ⟨x8, hx8e⟩ : ∃ z, z = x5 - x5 / 2 * 2 := ⟨_, rfl⟩
            have hx8 : x8 = nI (dp % 2) := by rw [hx8e, hx5, gz_n2]; exact pk_rem (by omega) (by decide) (by decide)
            rw [← hx8e]
            refine gz_istore hC dX8_answerOf_25 (by decide) ?_
            refine gz_iload hC dX8_answerOf_27 rfl ?_
            refine gz_aload_n hC dX8_answerOf_29 rfl ?_
            refine gz_callV0 hC dX8_answerOf_30 ml_X8_89 rfl rfl (by decide) (by decide) (Nat.le_of_ble_eq_true rfl) (ct_X8_most hJ _ _ d0 d1 F w hXb.1) (fun v30 M30 hp30 => ?_)
            obtain ⟨rfl, rfl⟩ := hp30
            refine gz_icmp_ne hC 111 dX8_answerOf_33 (by decide) (fun c33 => ?_) (fun c33 => ?_)
            · refine gz_aload_n hC dX8_answerOf_111 rfl ?_
              refine gz_aload_n hC dX8_answerOf_112 rfl ?_
              refine gz_getR (j := 19) hC dX8_answerOf_113 cf_X8 fl_X8_45 rfl rfl (by decide) ?_
              refine gz_iload hC dX8_answerOf_116 rfl ?_
              refine gz_iald hC dX8_answerOf_118 rfl (by rw [hx5]; exact vp_in_nI (by omega) (by decide)) ?_
              rw [show x5.toNatClampNeg = dp by rw [hx5, nI_clamp (by omega)]]
              rw [hN.1]
              refine gz_iload hC dX8_answerOf_119 rfl ?_
              refine gz_callV2 hC dX8_answerOf_121 ml_X8_120 rfl rfl (by decide) (by decide) (Nat.le_of_ble_eq_true rfl) (ct_X8_mayMove hJ _ _ d0 d1 F w hXb.1 _ _) (fun v121 M121 hp121 => ?_)
              obtain ⟨rfl, rfl⟩ := hp121
              rw [show sp_bon d0 d1 F x7 = true by rw [hx7]; exact sp_bon_N hO (by omega), Bool.true_and, gz_mfN rfl hx7 (by omega) (by omega)]
              refine gz_if_ne hC 141 dX8_answerOf_124 (by decide) (fun c124 => ?_) (fun c124 => ?_)
              · have hmf := gz_b1 c124
                refine gz_iload hC dX8_answerOf_141 rfl ?_
                refine gz_iconst hC (-1) dX8_answerOf_143 (by decide) ?_
                refine gz_icmp_ne hC 170 dX8_answerOf_144 (by decide) (fun c144 => ?_) (fun c144 => ?_)
                · have hq0 : ¬ q = 0 := fun z => c144 (by rw [hx7, z]; rfl)
                  have hlq : la < q := by rcases tb_mf_lt hmf with ⟨a, _⟩ | a; exact absurd a hq0; exact a
                  refine gz_iload hC dX8_answerOf_170 rfl ?_
                  refine gz_iload_n hC dX8_answerOf_172 rfl ?_
                  refine gz_icmp_ne hC 240 dX8_answerOf_173 (by decide) (fun c173 => ?_) (fun c173 => ?_)
                  · have hown : ¬ dp % 2 = pl := fun z => c173 (by rw [hx8, z, hx1])
                    rw [decide_eq_false hown] at hN
                    refine gz_aload_n hC dX8_answerOf_240 rfl ?_
                    refine gz_iload_n hC dX8_answerOf_241 rfl ?_
                    refine gz_iload_n hC dX8_answerOf_242 rfl ?_
                    refine gz_iload hC dX8_answerOf_243 rfl ?_
                    refine gz_iload hC dX8_answerOf_245 rfl ?_
                    refine gz_callV4 hC dX8_answerOf_247 ml_X8_158 rfl rfl (by decide) (by decide) (Nat.le_of_ble_eq_true rfl) (ct_X8_leads hJ _ _ d0 d1 F w hO hXb plan pl dp la R K hp hpn (by rw [h4b]; exact hw) (by omega) hla hN.1 hK (by omega) hRb hN.2.2.1 q (by omega) hmf _ _ _ _ hx1 hx2 hx5 hx7) (fun v247 M247 hp247 => ?_)
                    rw [h4b] at hp247
                    obtain ⟨J4, rfl, rfl, hcr, hfr⟩ := hp247
                    have hcp : mr_H (4 * (dp + 1)) (dp + 1) J2b J4 := fun o j h1 _ => hfr o j h1
                    refine gz_if_eq hC 269 dX8_answerOf_250 (by decide) (fun c250 => ?_) (fun c250 => ?_)
                    · have hb := gz_b0 c250
                      have hbf : (tb_mf la q && an_any (an_R (an_S (I 4) d0 d1 F plan pl) R la q) (an_nO d0 d1 F pl)) = false := by rw [hb, Bool.and_false]
                      refine gz_aload_n hC dX8_answerOf_269 rfl ?_
                      refine gz_getR (j := 20) hC dX8_answerOf_270 cf_X8 fl_X8_48 rfl rfl (by decide) ?_
                      refine gz_iload hC dX8_answerOf_273 rfl ?_
                      refine gz_dup2 hC dX8_answerOf_275 rfl rfl ?_
                      refine gz_iald hC dX8_answerOf_276 rfl (by rw [hx5]; exact vp_in_nI (by omega) (by decide)) ?_
                      rw [show x5.toNatClampNeg = dp by rw [hx5, nI_clamp (by omega)]]
                      refine gz_iconst hC (1) dX8_answerOf_277 (by decide) ?_
                      refine gz_iadd hC dX8_answerOf_278 ?_
                      refine gz_iast hC dX8_answerOf_279 rfl (by rw [hx5]; exact vp_in_nI (by omega) (by decide)) ?_
                      rw [show x5.toNatClampNeg = dp by rw [hx5, nI_clamp (by omega)]]
                      refine gz_goto hC 7 dX8_answerOf_280 (by decide) ?_
                      refine gz_lw [(0, .ref (ad 0)), (1, .int x1), (2, .int x2), (3, .int x3), (4, .int x4), (5, .int x5), (6, .int 0)] ⟨rfl, rfl, rfl, rfl, rfl, rfl, rfl, trivial⟩ ?_
                      exact ihr (q + 1) _ _ (by omega) (by rw [decide_eq_false hown]; exact mr_oth hn4 hN (by rw [an_oh_f hbf, hfr 11 dp (Or.inl (by decide))]; exact hN.2.2.2.2 rfl) (mr_H_w hcp (Nat.le_refl _) (by omega))) (mr_J_up hJb (by decide) (Nat.le_refl _)) (mr_H_t hHb (mr_H_w hcp (Nat.le_refl _) (by omega)) (Nat.le_refl _) (Nat.le_refl _))
                    · have hbt : (tb_mf la q && an_any (an_R (an_S (I 4) d0 d1 F plan pl) R la q) (an_nO d0 d1 F pl)) = true := by rw [gz_b1 c250, hmf]; rfl
                      refine gz_aload_n hC dX8_answerOf_253 rfl ?_
                      refine gz_iload hC dX8_answerOf_254 rfl ?_
                      refine gz_iconst hC (1) dX8_answerOf_256 (by decide) ?_
                      refine gz_iadd hC dX8_answerOf_257 ?_
                      refine gz_iload hC dX8_answerOf_258 rfl ?_
                      refine gz_callV2 hC dX8_answerOf_260 ml_X8_166 rfl rfl (by decide) (by decide) (Nat.le_of_ble_eq_true rfl) (ct_X8_enter hJ _ _ (dp + 1) (by omega) _ _ (by rw [hx5]; exact nI_1 dp)) (fun v260 M260 hp260 => ?_)
                      obtain ⟨rfl, rfl⟩ := hp260
                      refine gz_iinc hC (1) dX8_answerOf_263 rfl (by decide) (by decide) ?_
                      refine gz_goto hC 280 dX8_answerOf_266 (by decide) ?_
                      refine gz_goto hC 7 dX8_answerOf_280 (by decide) ?_
                      obtain ⟨Jc, hJc⟩ : ∃ z, z = gz_up (gz_up (gz_up (gz_up J1b 9 (dp + 1) x7) 10 (dp + 1) (-1)) 12 (dp + 1) (-1)) 13 (dp + 1) 0 := ⟨_, rfl⟩
                      have hJcf : mr_J (dp + 1) J1b Jc := by rw [hJc]; exact mr_J_up (mr_J_up (mr_J_up (mr_J_up mr_J_0 (by decide) (Nat.le_refl _)) (by decide) (Nat.le_refl _)) (by decide) (Nat.le_refl _)) (by decide) (Nat.le_refl _)
                      obtain ⟨Hc, hHc⟩ : ∃ z, z = gz_up J4 11 (dp + 1) 0 := ⟨_, rfl⟩
                      have hHcf : mr_H (4 * (dp + 1)) (dp + 1) J2b Hc := by rw [hHc]; exact mr_H_up hcp (Nat.le_refl _)
                      rw [← hJc, ← hHc]
                      have hy5 : x5 + 1 = nI (dp + 1) := gz_i1 hx5
                      refine gz_lw [(0, .ref (ad 0)), (1, .int x1), (2, .int x2), (3, .int x3), (4, .int x4), (5, .int (x5 + 1)), (6, .int 0)] ⟨rfl, rfl, rfl, rfl, rfl, rfl, rfl, trivial⟩ ?_
                      refine ihn (dp + 1) q (an_R (an_S (I 4) d0 d1 F plan pl) R la q) (K + 35) Jc Hc (x5 + 1) hy5 (by omega) (by omega) (by omega) (by omega) (by omega) (by omega) (an_R_b hA hK (by omega) hRb hla (by omega)) (xm_mr hXb hJcf) ((mr_J_o hJcf 4 (by decide) (by decide) (by decide) (by decide)).trans h4b) (by rw [hJc, gz_up_at (by decide), gz_up_at (by decide), gz_up_at (by decide), gz_up_self]; exact hx7) (by rw [hJc, gz_up_at (by decide), gz_up_at (by decide), gz_up_self]) (by rw [hJc, gz_up_at (by decide), gz_up_self]) (by rw [hJc, gz_up_self]) (by rw [hHc, gz_up_self]) (fun k hk => by rw [hHc, gz_up_at (by decide)]; exact hcr k hk) ?_
                      intro K1 K2 k10 k11 _ kI kH
                      rw [show decide ((dp + 1) % 2 = pl) = true by exact decide_eq_true (by omega)] at k11
                      have hJk : mr_J (dp + 1) J1b K1 := mr_J_t hJcf kI (Nat.le_refl _)
                      have hJk0 : mr_J dp J1b K1 := fun o j h1 h2 h3 h4 => hJk o j (by omega) (by omega) (by omega) (by omega)
                      have hHk : mr_H (4 * (dp + 1)) (dp + 1) J2b K2 := mr_H_t hHcf kH (by omega) (Nat.le_refl _)
                      have hXk := xm_mr hXb hJk
                      have hNk := mr_n_fr hn4 hN hJk hHk
                      have hterm : fp_b (K + 35 + 8 + 60 * n) (an_V (an_nO d0 d1 F pl) ((d0 + d1) * F) (an_t d0 d1 F w pl own) (an_S (I 4) d0 d1 F plan pl) n true q (an_R (an_S (I 4) d0 d1 F plan pl) R la q)) := an_V_b hA n true q _ (K + 35) (by omega) (by omega) (by omega) (an_R_b hA hK (by omega) hRb hla (by omega))
                      refine gz_iload hC dX8_answerOf_7 rfl ?_
                      refine gz_if_ne hC 283 dX8_answerOf_9 (by decide) (fun c9 => ?_) (fun c9 => ?_)
                      · exact absurd rfl c9
                      · refine gz_aload_n hC dX8_answerOf_12 rfl ?_
                        refine gz_getR (j := 20) hC dX8_answerOf_13 cf_X8 fl_X8_48 rfl rfl (by decide) ?_
                        refine gz_iload hC dX8_answerOf_16 rfl ?_
                        refine gz_iald hC dX8_answerOf_18 rfl (by rw [hy5]; exact vp_in_nI (by omega) (by decide)) ?_
                        rw [show (x5 + 1).toNatClampNeg = dp + 1 by rw [hy5, nI_clamp (by omega)]]
                        rw [k10]
                        refine gz_istore hC dX8_answerOf_19 (by decide) ?_
                        refine gz_iload hC dX8_answerOf_21 rfl ?_
                        refine gz_iconst hC (2) dX8_answerOf_23 (by decide) ?_
                        refine gz_irem hC dX8_answerOf_24 (by decide) ?_
                        refine gz_istore hC dX8_answerOf_25 (by decide) ?_
                        refine gz_iload hC dX8_answerOf_27 rfl ?_
                        refine gz_aload_n hC dX8_answerOf_29 rfl ?_
                        refine gz_callV0 hC dX8_answerOf_30 ml_X8_89 rfl rfl (by decide) (by decide) (Nat.le_of_ble_eq_true rfl) (ct_X8_most hJ _ _ d0 d1 F w hXk.1) (fun v30 M30 hp30 => ?_)
                        obtain ⟨rfl, rfl⟩ := hp30
                        refine gz_icmp_ne hC 111 dX8_answerOf_33 (by decide) (fun c33 => ?_) (fun c33 => ?_)
                        · exact absurd (nI_pred _) c33
                        · refine gz_iload hC dX8_answerOf_36 rfl ?_
                          refine gz_iload hC dX8_answerOf_38 rfl ?_
                          refine gz_icmp_ne hC 49 dX8_answerOf_40 (by decide) (fun c40 => ?_) (fun c40 => ?_)
                          · refine gz_aload_n hC dX8_answerOf_49 rfl ?_
                            refine gz_getR (j := 21) hC dX8_answerOf_50 cf_X8 fl_X8_51 rfl rfl (by decide) ?_
                            refine gz_iload hC dX8_answerOf_53 rfl ?_
                            refine gz_dald hC dX8_answerOf_55 rfl (by rw [hy5]; exact vp_in_nI (by omega) (by decide)) ?_
                            rw [show (x5 + 1).toNatClampNeg = dp + 1 by rw [hy5, nI_clamp (by omega)]]
                            rw [k11]
                            refine gz_dstore hC dX8_answerOf_56 (by decide) ?_
                            refine gz_iinc hC (-1) dX8_answerOf_58 rfl (by decide) (by decide) ?_
                            rw [show x5 + 1 + (-1) = x5 by rw [hx5, nI_1]; exact pk_m1 dp]
                            refine gz_iload hC dX8_answerOf_61 rfl ?_
                            refine gz_iconst hC (2) dX8_answerOf_63 (by decide) ?_
                            refine gz_irem hC dX8_answerOf_64 (by decide) ?_
                            refine gz_iload_n hC dX8_answerOf_65 rfl ?_
                            refine gz_icmp_ne hC 80 dX8_answerOf_66 (by decide) (fun c66 => ?_) (fun c66 => ?_)
                            · refine gz_aload_n hC dX8_answerOf_80 rfl ?_
                              refine gz_getR (j := 21) hC dX8_answerOf_81 cf_X8 fl_X8_51 rfl rfl (by decide) ?_
                              refine gz_iload hC dX8_answerOf_84 rfl ?_
                              refine gz_aload_n hC dX8_answerOf_86 rfl ?_
                              refine gz_getR (j := 21) hC dX8_answerOf_87 cf_X8 fl_X8_51 rfl rfl (by decide) ?_
                              refine gz_iload hC dX8_answerOf_90 rfl ?_
                              refine gz_dald hC dX8_answerOf_92 rfl (by rw [hx5]; exact vp_in_nI (by omega) (by decide)) ?_
                              rw [show x5.toNatClampNeg = dp by rw [hx5, nI_clamp (by omega)]]
                              rw [hNk.2.2.2.2 rfl]
                              refine gz_dload hC dX8_answerOf_93 rfl ?_
                              refine gz_dadd hC dX8_answerOf_95 (fp_b_n64 (fp_b_add (hhb q (by omega)) (fp_b_mono hterm (by omega)) (by omega)) (by omega)) ?_
                              refine gz_dast hC dX8_answerOf_96 rfl (by rw [hx5]; exact vp_in_nI (by omega) (by decide)) ?_
                              rw [show x5.toNatClampNeg = dp by rw [hx5, nI_clamp (by omega)]]
                              refine gz_aload_n hC dX8_answerOf_97 rfl ?_
                              refine gz_getR (j := 20) hC dX8_answerOf_98 cf_X8 fl_X8_48 rfl rfl (by decide) ?_
                              refine gz_iload hC dX8_answerOf_101 rfl ?_
                              refine gz_dup2 hC dX8_answerOf_103 rfl rfl ?_
                              refine gz_iald hC dX8_answerOf_104 rfl (by rw [hx5]; exact vp_in_nI (by omega) (by decide)) ?_
                              rw [show x5.toNatClampNeg = dp by rw [hx5, nI_clamp (by omega)]]
                              refine gz_iconst hC (1) dX8_answerOf_105 (by decide) ?_
                              refine gz_iadd hC dX8_answerOf_106 ?_
                              refine gz_iast hC dX8_answerOf_107 rfl (by rw [hx5]; exact vp_in_nI (by omega) (by decide)) ?_
                              rw [show x5.toNatClampNeg = dp by rw [hx5, nI_clamp (by omega)]]
                              refine gz_goto hC 280 dX8_answerOf_108 (by decide) ?_
                              refine gz_goto hC 7 dX8_answerOf_280 (by decide) ?_
                              refine gz_lw [(0, .ref (ad 0)), (1, .int x1), (2, .int x2), (3, .int x3), (4, .int x4), (5, .int x5), (6, .int 0)] ⟨rfl, rfl, rfl, rfl, rfl, rfl, rfl, trivial⟩ ?_
                              exact ihr (q + 1) _ _ (by omega) (by rw [decide_eq_false hown]; exact mr_oth hn4 hNk (by rw [gz_up_self, an_oh_t hbt hq0]) (mr_H_up mr_H_0 (Nat.le_refl _))) (mr_J_t hJb (mr_J_t (a := dp) hJk0 (mr_J_up mr_J_0 (by decide) (Nat.le_refl _)) (Nat.le_refl _)) (Nat.le_refl _)) (mr_H_t hHb (mr_H_up (mr_H_w hHk (Nat.le_refl _) (by omega)) (Nat.le_refl _)) (Nat.le_refl _) (Nat.le_refl _))
                            · exact absurd (hx8e.trans c66) c173
                          · exact absurd ((nI_eq (by omega) (by omega)).mp (hy5.symm.trans (c40.trans hx4))) (by omega)
                  · have hown : dp % 2 = pl := (nI_eq (by omega) (by omega)).mp (hx8.symm.trans (c173.trans hx1))
                    rw [decide_eq_true hown] at hN
                    refine gz_iconst hC (0) dX8_answerOf_176 (by decide) ?_
                    refine gz_istore hC dX8_answerOf_177 (by decide) ?_
                    have lpk : ∀ (m2 k : Nat) (J3 : Nat → Nat → UInt64) (x9 : Int32) (hik : k + m2 = (an_nO d0 d1 F pl)) (hx9 : x9 = nI k) (hdn : ∀ k2, k2 < k → J3 8 (4 * (dp + 1) + k2) = R k2) (hfr : ∀ o j, o ≠ 8 ∨ j < 4 * (dp + 1) → J3 o j = J2b o j), gz_W p l e (gz_rm 7) s m args below meth c D ad cy lm_lay 11 (MQ below (gz_Q D ad cy lm_lay (fun v M1 => ∃ I1 G1, v = some (.double (an_V (an_nO d0 d1 F pl) ((d0 + d1) * F) (an_t d0 d1 F w pl own) (an_S (I 4) d0 d1 F plan pl) 9 (decide (first % 2 = pl)) lt Rt)) ∧ M1 = (I1, G1) ∧ mr_J first I I1 ∧ (first % 2 = pl → I1 12 first = nI (an_best (an_nO d0 d1 F pl) ((d0 + d1) * F) (an_t d0 d1 F w pl own) (an_S (I 4) d0 d1 F plan pl) 8 lt Rt) - 1))) args s 0 0 (gz_A ad lm_lay)) (J1b, J3) 179 [(0, .ref (ad 0)), (1, .int x1), (2, .int x2), (3, .int x3), (4, .int x4), (5, .int x5), (6, .int 0), (7, .int x7), (9, .int x9)] [] := by
                      intro m2
                      induction m2 with
                      | zero =>
                        intro k J3 x9 hik hx9 hdn hfr
                        refine gz_iload hC dX8_answerOf_179 rfl ?_
                        refine gz_aload_n hC dX8_answerOf_181 rfl ?_
                        refine gz_getR (j := 5) hC dX8_answerOf_182 cf_X8 fl_X8_23 rfl rfl (by decide) ?_
                        refine gz_iconst hC (1) dX8_answerOf_185 (by decide) ?_
                        refine gz_iload_n hC dX8_answerOf_186 rfl ?_
                        refine gz_isub hC dX8_answerOf_187 ?_
                        refine gz_iald hC dX8_answerOf_188 rfl (by rw [hx1, gz_n1, pk_sub (by omega)]; exact vp_in_nI (by omega) (by decide)) ?_
                        rw [show (1 - x1).toNatClampNeg = 1 - pl by rw [hx1, gz_n1, pk_sub (by omega), nI_clamp (by omega)], (xm_hP hXb (show 1 - pl < 2 by omega)).1]
                        refine gz_icmp_ge hC 224 dX8_answerOf_189 (by decide) (fun c189 => ?_) (fun c189 => ?_)
                        · refine gz_aload_n hC dX8_answerOf_224 rfl ?_
                          refine gz_iload hC dX8_answerOf_225 rfl ?_
                          refine gz_iconst hC (1) dX8_answerOf_227 (by decide) ?_
                          refine gz_iadd hC dX8_answerOf_228 ?_
                          refine gz_iload hC dX8_answerOf_229 rfl ?_
                          refine gz_callV2 hC dX8_answerOf_231 ml_X8_166 rfl rfl (by decide) (by decide) (Nat.le_of_ble_eq_true rfl) (ct_X8_enter hJ _ _ (dp + 1) (by omega) _ _ (by rw [hx5]; exact nI_1 dp)) (fun v231 M231 hp231 => ?_)
                          obtain ⟨rfl, rfl⟩ := hp231
                          refine gz_iinc hC (1) dX8_answerOf_234 rfl (by decide) (by decide) ?_
                          refine gz_goto hC 280 dX8_answerOf_237 (by decide) ?_
                          refine gz_goto hC 7 dX8_answerOf_280 (by decide) ?_
                          have hcp : mr_H (4 * (dp + 1)) (dp + 1) J2b J3 := fun o j h1 _ => hfr o j h1
                          have hcr : ∀ k, k < (an_nO d0 d1 F pl) → J3 8 (4 * (dp + 1) + k) = R k := fun k2 hk2 => hdn k2 (by omega)
                          obtain ⟨Jc, hJc⟩ : ∃ z, z = gz_up (gz_up (gz_up (gz_up J1b 9 (dp + 1) x7) 10 (dp + 1) (-1)) 12 (dp + 1) (-1)) 13 (dp + 1) 0 := ⟨_, rfl⟩
                          have hJcf : mr_J (dp + 1) J1b Jc := by rw [hJc]; exact mr_J_up (mr_J_up (mr_J_up (mr_J_up mr_J_0 (by decide) (Nat.le_refl _)) (by decide) (Nat.le_refl _)) (by decide) (Nat.le_refl _)) (by decide) (Nat.le_refl _)
                          obtain ⟨Hc, hHc⟩ : ∃ z, z = gz_up J3 11 (dp + 1) 0 := ⟨_, rfl⟩
                          have hHcf : mr_H (4 * (dp + 1)) (dp + 1) J2b Hc := by rw [hHc]; exact mr_H_up hcp (Nat.le_refl _)
                          rw [← hJc, ← hHc]
                          have hy5 : x5 + 1 = nI (dp + 1) := gz_i1 hx5
                          refine gz_lw [(0, .ref (ad 0)), (1, .int x1), (2, .int x2), (3, .int x3), (4, .int x4), (5, .int (x5 + 1)), (6, .int 0)] ⟨rfl, rfl, rfl, rfl, rfl, rfl, rfl, trivial⟩ ?_
                          refine ihn (dp + 1) q R K Jc Hc (x5 + 1) hy5 (by omega) (by omega) (by omega) (by omega) (by omega) (by omega) hRb (xm_mr hXb hJcf) ((mr_J_o hJcf 4 (by decide) (by decide) (by decide) (by decide)).trans h4b) (by rw [hJc, gz_up_at (by decide), gz_up_at (by decide), gz_up_at (by decide), gz_up_self]; exact hx7) (by rw [hJc, gz_up_at (by decide), gz_up_at (by decide), gz_up_self]) (by rw [hJc, gz_up_at (by decide), gz_up_self]) (by rw [hJc, gz_up_self]) (by rw [hHc, gz_up_self]) (fun k hk => by rw [hHc, gz_up_at (by decide)]; exact hcr k hk) ?_
                          intro K1 K2 k10 k11 _ kI kH
                          rw [show decide ((dp + 1) % 2 = pl) = false by exact decide_eq_false (by omega)] at k11
                          have hJk : mr_J (dp + 1) J1b K1 := mr_J_t hJcf kI (Nat.le_refl _)
                          have hJk0 : mr_J dp J1b K1 := fun o j h1 h2 h3 h4 => hJk o j (by omega) (by omega) (by omega) (by omega)
                          have hHk : mr_H (4 * (dp + 1)) (dp + 1) J2b K2 := mr_H_t hHcf kH (by omega) (Nat.le_refl _)
                          have hXk := xm_mr hXb hJk
                          have hNk := mr_n_fr hn4 hN hJk hHk
                          refine gz_iload hC dX8_answerOf_7 rfl ?_
                          refine gz_if_ne hC 283 dX8_answerOf_9 (by decide) (fun c9 => ?_) (fun c9 => ?_)
                          · exact absurd rfl c9
                          · refine gz_aload_n hC dX8_answerOf_12 rfl ?_
                            refine gz_getR (j := 20) hC dX8_answerOf_13 cf_X8 fl_X8_48 rfl rfl (by decide) ?_
                            refine gz_iload hC dX8_answerOf_16 rfl ?_
                            refine gz_iald hC dX8_answerOf_18 rfl (by rw [hy5]; exact vp_in_nI (by omega) (by decide)) ?_
                            rw [show (x5 + 1).toNatClampNeg = dp + 1 by rw [hy5, nI_clamp (by omega)]]
                            rw [k10]
                            refine gz_istore hC dX8_answerOf_19 (by decide) ?_
                            refine gz_iload hC dX8_answerOf_21 rfl ?_
                            refine gz_iconst hC (2) dX8_answerOf_23 (by decide) ?_
                            refine gz_irem hC dX8_answerOf_24 (by decide) ?_
                            refine gz_istore hC dX8_answerOf_25 (by decide) ?_
                            refine gz_iload hC dX8_answerOf_27 rfl ?_
                            refine gz_aload_n hC dX8_answerOf_29 rfl ?_
                            refine gz_callV0 hC dX8_answerOf_30 ml_X8_89 rfl rfl (by decide) (by decide) (Nat.le_of_ble_eq_true rfl) (ct_X8_most hJ _ _ d0 d1 F w hXk.1) (fun v30 M30 hp30 => ?_)
                            obtain ⟨rfl, rfl⟩ := hp30
                            refine gz_icmp_ne hC 111 dX8_answerOf_33 (by decide) (fun c33 => ?_) (fun c33 => ?_)
                            · exact absurd (nI_pred _) c33
                            · refine gz_iload hC dX8_answerOf_36 rfl ?_
                              refine gz_iload hC dX8_answerOf_38 rfl ?_
                              refine gz_icmp_ne hC 49 dX8_answerOf_40 (by decide) (fun c40 => ?_) (fun c40 => ?_)
                              · refine gz_aload_n hC dX8_answerOf_49 rfl ?_
                                refine gz_getR (j := 21) hC dX8_answerOf_50 cf_X8 fl_X8_51 rfl rfl (by decide) ?_
                                refine gz_iload hC dX8_answerOf_53 rfl ?_
                                refine gz_dald hC dX8_answerOf_55 rfl (by rw [hy5]; exact vp_in_nI (by omega) (by decide)) ?_
                                rw [show (x5 + 1).toNatClampNeg = dp + 1 by rw [hy5, nI_clamp (by omega)]]
                                rw [k11]
                                refine gz_dstore hC dX8_answerOf_56 (by decide) ?_
                                refine gz_iinc hC (-1) dX8_answerOf_58 rfl (by decide) (by decide) ?_
                                rw [show x5 + 1 + (-1) = x5 by rw [hx5, nI_1]; exact pk_m1 dp]
                                refine gz_iload hC dX8_answerOf_61 rfl ?_
                                refine gz_iconst hC (2) dX8_answerOf_63 (by decide) ?_
                                refine gz_irem hC dX8_answerOf_64 (by decide) ?_
                                refine gz_iload_n hC dX8_answerOf_65 rfl ?_
                                refine gz_icmp_ne hC 80 dX8_answerOf_66 (by decide) (fun c66 => ?_) (fun c66 => ?_)
                                · exact absurd (hx8e.symm.trans c173) c66
                                · refine gz_aload_n hC dX8_answerOf_69 rfl ?_
                                  refine gz_iload hC dX8_answerOf_70 rfl ?_
                                  refine gz_dload hC dX8_answerOf_72 rfl ?_
                                  refine gz_callV2 hC dX8_answerOf_74 ml_X8_154 rfl rfl (by decide) (by decide) (Nat.le_of_ble_eq_true rfl) (ct_X8_offer hJ _ _ dp (by omega) _ (hNk.2.2.2.1 rfl).1 _ _ hx5) (fun v74 M74 hp74 => ?_)
                                  obtain ⟨rfl, hM⟩ := hp74
                                  obtain ⟨I5, G5⟩ := M74
                                  obtain ⟨n1, n2, n3⟩ := mr_own hNk hmf (show an_V (an_nO d0 d1 F pl) ((d0 + d1) * F) (an_t d0 d1 F w pl own) (an_S (I 4) d0 d1 F plan pl) n false q R = (an_ow (an_nO d0 d1 F pl) ((d0 + d1) * F) (an_t d0 d1 F w pl own) (an_S (I 4) d0 d1 F plan pl) n la R) q from (if_neg hq0).symm) hM
                                  refine gz_goto hC 97 dX8_answerOf_77 (by decide) ?_
                                  refine gz_aload_n hC dX8_answerOf_97 rfl ?_
                                  refine gz_getR (j := 20) hC dX8_answerOf_98 cf_X8 fl_X8_48 rfl rfl (by decide) ?_
                                  refine gz_iload hC dX8_answerOf_101 rfl ?_
                                  refine gz_dup2 hC dX8_answerOf_103 rfl rfl ?_
                                  refine gz_iald hC dX8_answerOf_104 rfl (by rw [hx5]; exact vp_in_nI (by omega) (by decide)) ?_
                                  rw [show x5.toNatClampNeg = dp by rw [hx5, nI_clamp (by omega)]]
                                  refine gz_iconst hC (1) dX8_answerOf_105 (by decide) ?_
                                  refine gz_iadd hC dX8_answerOf_106 ?_
                                  refine gz_iast hC dX8_answerOf_107 rfl (by rw [hx5]; exact vp_in_nI (by omega) (by decide)) ?_
                                  rw [show x5.toNatClampNeg = dp by rw [hx5, nI_clamp (by omega)]]
                                  refine gz_goto hC 280 dX8_answerOf_108 (by decide) ?_
                                  refine gz_goto hC 7 dX8_answerOf_280 (by decide) ?_
                                  refine gz_lw [(0, .ref (ad 0)), (1, .int x1), (2, .int x2), (3, .int x3), (4, .int x4), (5, .int x5), (6, .int 0)] ⟨rfl, rfl, rfl, rfl, rfl, rfl, rfl, trivial⟩ ?_
                                  exact ihr (q + 1) _ _ (by omega) (by rw [decide_eq_true hown]; exact n1) (mr_J_t hJb (mr_J_t hJk0 n2 (Nat.le_refl _)) (Nat.le_refl _)) (mr_H_t hHb (mr_H_t (mr_H_w hHk (Nat.le_refl _) (by omega)) n3 (Nat.le_refl _) (Nat.le_refl _)) (Nat.le_refl _) (Nat.le_refl _))
                              · exact absurd ((nI_eq (by omega) (by omega)).mp (hy5.symm.trans (c40.trans hx4))) (by omega)
                        · exact absurd (gz_ile (show nI (tb_n (tb_d d0 d1 (1 - pl)) F) = nI (an_nO d0 d1 F pl) from rfl) hx9 (by omega) (by omega)) c189
                      | succ m2 ihk =>
                        intro k J3 x9 hik hx9 hdn hfr
                        refine gz_iload hC dX8_answerOf_179 rfl ?_
                        refine gz_aload_n hC dX8_answerOf_181 rfl ?_
                        refine gz_getR (j := 5) hC dX8_answerOf_182 cf_X8 fl_X8_23 rfl rfl (by decide) ?_
                        refine gz_iconst hC (1) dX8_answerOf_185 (by decide) ?_
                        refine gz_iload_n hC dX8_answerOf_186 rfl ?_
                        refine gz_isub hC dX8_answerOf_187 ?_
                        refine gz_iald hC dX8_answerOf_188 rfl (by rw [hx1, gz_n1, pk_sub (by omega)]; exact vp_in_nI (by omega) (by decide)) ?_
                        rw [show (1 - x1).toNatClampNeg = 1 - pl by rw [hx1, gz_n1, pk_sub (by omega), nI_clamp (by omega)], (xm_hP hXb (show 1 - pl < 2 by omega)).1]
                        refine gz_icmp_ge hC 224 dX8_answerOf_189 (by decide) (fun c189 => ?_) (fun c189 => ?_)
                        · exact absurd c189 (gz_inle (show nI (tb_n (tb_d d0 d1 (1 - pl)) F) = nI (an_nO d0 d1 F pl) from rfl) hx9 (by omega) (by omega))
                        · refine gz_aload_n hC dX8_answerOf_192 rfl ?_
                          refine gz_getR (j := 18) hC dX8_answerOf_193 cf_X8 fl_X8_42 rfl rfl (by decide) ?_
                          refine gz_iconst hC (4) dX8_answerOf_196 (by decide) ?_
                          refine gz_iload hC dX8_answerOf_197 rfl ?_
                          refine gz_imul hC dX8_answerOf_199 ?_
                          refine gz_iconst hC (4) dX8_answerOf_200 (by decide) ?_
                          refine gz_iadd hC dX8_answerOf_201 ?_
                          refine gz_iload hC dX8_answerOf_202 rfl ?_
                          refine gz_iadd hC dX8_answerOf_204 ?_
                          refine gz_aload_n hC dX8_answerOf_205 rfl ?_
                          refine gz_getR (j := 18) hC dX8_answerOf_206 cf_X8 fl_X8_42 rfl rfl (by decide) ?_
                          refine gz_iconst hC (4) dX8_answerOf_209 (by decide) ?_
                          refine gz_iload hC dX8_answerOf_210 rfl ?_
                          refine gz_imul hC dX8_answerOf_212 ?_
                          refine gz_iload hC dX8_answerOf_213 rfl ?_
                          refine gz_iadd hC dX8_answerOf_215 ?_
                          refine gz_dald hC dX8_answerOf_216 rfl (by rw [hx5, hx9, gz_n4, pk_mul, nI_add]; exact vp_in_nI (by omega) (by decide)) ?_
                          rw [show (4 * x5 + x9).toNatClampNeg = 4 * dp + k by rw [hx5, hx9, gz_n4, pk_mul, nI_add, nI_clamp (by omega)], (hfr 8 (4 * dp + k) (Or.inr (by omega))).trans (hN.2.2.1 k (by omega))]
                          refine gz_dast hC dX8_answerOf_217 rfl (by rw [hx5, hx9, gz_n4, pk_mul, nI_add, nI_add]; exact vp_in_nI (by omega) (by decide)) ?_
                          rw [show (4 * x5 + 4 + x9).toNatClampNeg = 4 * (dp + 1) + k by rw [hx5, hx9, gz_n4, pk_mul, nI_add, nI_add, nI_clamp (by omega)]; omega]
                          refine gz_iinc hC (1) dX8_answerOf_218 rfl (by decide) (by decide) ?_
                          refine gz_goto hC 179 dX8_answerOf_221 (by decide) ?_
                          refine gz_lw [(0, .ref (ad 0)), (1, .int x1), (2, .int x2), (3, .int x3), (4, .int x4), (5, .int x5), (6, .int 0), (7, .int x7), (9, .int (x9 + 1))] ⟨rfl, rfl, rfl, rfl, rfl, rfl, rfl, rfl, rfl, trivial⟩ ?_
                          exact ihk (k + 1) _ _ (by omega) (gz_i1 hx9) (fun k2 hk2 => by by_cases e : k2 = k; (subst e; exact gz_up_self); exact (gz_up_oth (by omega)).trans (hdn k2 (by omega))) (fun o j h1 => by by_cases e : o = 8; (subst e; exact (gz_up_oth (by omega)).trans (hfr 8 j h1)); exact (gz_up_at e).trans (hfr o j h1))
                    refine gz_lw [(0, .ref (ad 0)), (1, .int x1), (2, .int x2), (3, .int x3), (4, .int x4), (5, .int x5), (6, .int 0), (7, .int x7), (9, .int 0)] ⟨rfl, rfl, rfl, rfl, rfl, rfl, rfl, rfl, rfl, trivial⟩ ?_
                    exact lpk (an_nO d0 d1 F pl) 0 J2b 0 (by omega) rfl (fun k2 h => absurd h (Nat.not_lt_zero k2)) (fun _ _ _ => rfl)
                · have hq0 : q = 0 := by
                    have z := nM_to hx7
                    rw [c144] at z
                    exact ((nI_eq (a := 0) (b := q) (by omega) (by omega)).mp z).symm
                  subst hq0
                  have hl1 : ¬ la = 0 := by rcases tb_mf_lt hmf with ⟨_, a⟩ | a; exact a; omega
                  by_cases hown : dp % 2 = pl
                  · rw [decide_eq_true hown] at hN
                    refine gz_aload_n hC dX8_answerOf_147 rfl ?_
                    refine gz_iload_n hC dX8_answerOf_148 rfl ?_
                    refine gz_iload_n hC dX8_answerOf_149 rfl ?_
                    refine gz_iload_n hC dX8_answerOf_150 rfl ?_
                    refine gz_iload hC dX8_answerOf_151 rfl ?_
                    refine gz_callV4 hC dX8_answerOf_153 ml_X8_162 rfl rfl (by decide) (by decide) (Nat.le_of_ble_eq_true rfl) (ct_X8_call_a hJ _ _ d0 d1 F w hO hXb plan pl dp la R K hp hpn (by rw [h4b]; exact hw) (by omega) hla hN.1 hK (by omega) hRb hN.2.2.1 own ho (by omega) _ _ _ _ hx1 hx2 hx3 hx5 hown _ (hN.2.2.2.1 rfl).1) (fun v153 M153 hp153 => ?_)
                    obtain ⟨rfl, hM⟩ := hp153
                    obtain ⟨I5, G5⟩ := M153
                    obtain ⟨n1, n2, n3⟩ := mr_own hN hmf rfl hM
                    refine gz_aload_n hC dX8_answerOf_156 rfl ?_
                    refine gz_getR (j := 20) hC dX8_answerOf_157 cf_X8 fl_X8_48 rfl rfl (by decide) ?_
                    refine gz_iload hC dX8_answerOf_160 rfl ?_
                    refine gz_dup2 hC dX8_answerOf_162 rfl rfl ?_
                    refine gz_iald hC dX8_answerOf_163 rfl (by rw [hx5]; exact vp_in_nI (by omega) (by decide)) ?_
                    rw [show x5.toNatClampNeg = dp by rw [hx5, nI_clamp (by omega)]]
                    refine gz_iconst hC (1) dX8_answerOf_164 (by decide) ?_
                    refine gz_iadd hC dX8_answerOf_165 ?_
                    refine gz_iast hC dX8_answerOf_166 rfl (by rw [hx5]; exact vp_in_nI (by omega) (by decide)) ?_
                    rw [show x5.toNatClampNeg = dp by rw [hx5, nI_clamp (by omega)]]
                    refine gz_goto hC 280 dX8_answerOf_167 (by decide) ?_
                    refine gz_goto hC 7 dX8_answerOf_280 (by decide) ?_
                    refine gz_lw [(0, .ref (ad 0)), (1, .int x1), (2, .int x2), (3, .int x3), (4, .int x4), (5, .int x5), (6, .int 0)] ⟨rfl, rfl, rfl, rfl, rfl, rfl, rfl, trivial⟩ ?_
                    exact ihr (0 + 1) _ _ (by omega) (by rw [decide_eq_true hown]; exact n1) (mr_J_t hJb n2 (Nat.le_refl _)) (mr_H_t hHb n3 (Nat.le_refl _) (Nat.le_refl _))
                  · rw [decide_eq_false hown] at hN
                    refine gz_aload_n hC dX8_answerOf_147 rfl ?_
                    refine gz_iload_n hC dX8_answerOf_148 rfl ?_
                    refine gz_iload_n hC dX8_answerOf_149 rfl ?_
                    refine gz_iload_n hC dX8_answerOf_150 rfl ?_
                    refine gz_iload hC dX8_answerOf_151 rfl ?_
                    refine gz_callV4 hC dX8_answerOf_153 ml_X8_162 rfl rfl (by decide) (by decide) (Nat.le_of_ble_eq_true rfl) (ct_X8_call_b hJ _ _ d0 d1 F w hO hXb plan pl dp la R K hp hpn (by rw [h4b]; exact hw) (by omega) hla hN.1 hK (by omega) hRb hN.2.2.1 own ho (by omega) _ _ _ _ hx1 hx2 hx3 hx5 hown (hN.2.2.2.2 rfl)) (fun v153 M153 hp153 => ?_)
                    rw [h4b] at hp153
                    obtain ⟨J4, rfl, rfl, k1, k2⟩ := hp153
                    have hH4 : mr_H (4 * (dp + 1)) dp J2b J4 := fun o j h1 h2 => k2 o j h1 (by omega)
                    refine gz_aload_n hC dX8_answerOf_156 rfl ?_
                    refine gz_getR (j := 20) hC dX8_answerOf_157 cf_X8 fl_X8_48 rfl rfl (by decide) ?_
                    refine gz_iload hC dX8_answerOf_160 rfl ?_
                    refine gz_dup2 hC dX8_answerOf_162 rfl rfl ?_
                    refine gz_iald hC dX8_answerOf_163 rfl (by rw [hx5]; exact vp_in_nI (by omega) (by decide)) ?_
                    rw [show x5.toNatClampNeg = dp by rw [hx5, nI_clamp (by omega)]]
                    refine gz_iconst hC (1) dX8_answerOf_164 (by decide) ?_
                    refine gz_iadd hC dX8_answerOf_165 ?_
                    refine gz_iast hC dX8_answerOf_166 rfl (by rw [hx5]; exact vp_in_nI (by omega) (by decide)) ?_
                    rw [show x5.toNatClampNeg = dp by rw [hx5, nI_clamp (by omega)]]
                    refine gz_goto hC 280 dX8_answerOf_167 (by decide) ?_
                    refine gz_goto hC 7 dX8_answerOf_280 (by decide) ?_
                    refine gz_lw [(0, .ref (ad 0)), (1, .int x1), (2, .int x2), (3, .int x3), (4, .int x4), (5, .int x5), (6, .int 0)] ⟨rfl, rfl, rfl, rfl, rfl, rfl, rfl, trivial⟩ ?_
                    exact ihr (0 + 1) _ _ (by omega) (by rw [decide_eq_false hown]; exact mr_oth hn4 hN (by rw [k1, an_oh_0, hmf]; rfl) hH4) (mr_J_up hJb (by decide) (Nat.le_refl _)) (mr_H_t hHb hH4 (Nat.le_refl _) (Nat.le_refl _))
              · have hb0 := gz_b0 c124
                refine gz_aload_n hC dX8_answerOf_127 rfl ?_
                refine gz_getR (j := 20) hC dX8_answerOf_128 cf_X8 fl_X8_48 rfl rfl (by decide) ?_
                refine gz_iload hC dX8_answerOf_131 rfl ?_
                refine gz_dup2 hC dX8_answerOf_133 rfl rfl ?_
                refine gz_iald hC dX8_answerOf_134 rfl (by rw [hx5]; exact vp_in_nI (by omega) (by decide)) ?_
                rw [show x5.toNatClampNeg = dp by rw [hx5, nI_clamp (by omega)]]
                refine gz_iconst hC (1) dX8_answerOf_135 (by decide) ?_
                refine gz_iadd hC dX8_answerOf_136 ?_
                refine gz_iast hC dX8_answerOf_137 rfl (by rw [hx5]; exact vp_in_nI (by omega) (by decide)) ?_
                rw [show x5.toNatClampNeg = dp by rw [hx5, nI_clamp (by omega)]]
                refine gz_goto hC 280 dX8_answerOf_138 (by decide) ?_
                refine gz_goto hC 7 dX8_answerOf_280 (by decide) ?_
                refine gz_lw [(0, .ref (ad 0)), (1, .int x1), (2, .int x2), (3, .int x3), (4, .int x4), (5, .int x5), (6, .int 0)] ⟨rfl, rfl, rfl, rfl, rfl, rfl, rfl, trivial⟩ ?_
                exact ihr (q + 1) _ _ (by omega) (mr_skip hN hb0) (mr_J_up hJb (by decide) (Nat.le_refl _)) (hHb)
            · exact absurd ((nI_eq (a := q) (b := ((d0 + d1) * F) + 1) (by omega) (by omega)).mp ((nM_to hx7).symm.trans (by rw [c33]; exact nI_1 _))) (by omega)
      exact step (((d0 + d1) * F) + 1) 0 J1 J2 (by omega) ⟨e9, e10.trans nM_0, hR, fun _ => ⟨e13, e12.trans nM_0, e11⟩, fun _ => e11⟩ mr_J_0 mr_H_0
  refine gz_lw [(0, .ref (ad 0)), (1, .int x1), (2, .int x2), (3, .int x3), (4, .int x4), (5, .int x4), (6, .int 0)] ⟨rfl, rfl, rfl, rfl, rfl, rfl, rfl, trivial⟩ ?_
  refine run 9 first lt Rt Kt I G x4 hx4 (Nat.le_refl _) hla (by omega) hfl hK (by omega) hRb hX rfl e9 e10 e12 e13 e11 hR ?_
  intro K1 K2 k10 k11 k12 kI kH
  refine gz_iload hC dX8_answerOf_7 rfl ?_
  refine gz_if_ne hC 283 dX8_answerOf_9 (by decide) (fun c9 => ?_) (fun c9 => ?_)
  · exact absurd rfl c9
  · refine gz_aload_n hC dX8_answerOf_12 rfl ?_
    refine gz_getR (j := 20) hC dX8_answerOf_13 cf_X8 fl_X8_48 rfl rfl (by decide) ?_
    refine gz_iload hC dX8_answerOf_16 rfl ?_
    refine gz_iald hC dX8_answerOf_18 rfl (by rw [hx4]; exact vp_in_nI (by omega) (by decide)) ?_
    rw [show x4.toNatClampNeg = first by rw [hx4, nI_clamp (by omega)]]
    rw [k10]
    refine gz_istore hC dX8_answerOf_19 (by decide) ?_
    refine gz_iload hC dX8_answerOf_21 rfl ?_
    refine gz_iconst hC (2) dX8_answerOf_23 (by decide) ?_
    refine gz_irem hC dX8_answerOf_24 (by decide) ?_
    refine gz_istore hC dX8_answerOf_25 (by decide) ?_
    refine gz_iload hC dX8_answerOf_27 rfl ?_
    refine gz_aload_n hC dX8_answerOf_29 rfl ?_
    refine gz_callV0 hC dX8_answerOf_30 ml_X8_89 rfl rfl (by decide) (by decide) (Nat.le_of_ble_eq_true rfl) (ct_X8_most hJ _ _ d0 d1 F w (xm_mr hX kI).1) (fun v30 M30 hp30 => ?_)
    obtain ⟨rfl, rfl⟩ := hp30
    refine gz_icmp_ne hC 111 dX8_answerOf_33 (by decide) (fun c33 => ?_) (fun c33 => ?_)
    · exact absurd (nI_pred _) c33
    · refine gz_iload hC dX8_answerOf_36 rfl ?_
      refine gz_iload hC dX8_answerOf_38 rfl ?_
      refine gz_icmp_ne hC 49 dX8_answerOf_40 (by decide) (fun c40 => ?_) (fun c40 => ?_)
      · exact absurd rfl c40
      · refine gz_iconst hC (1) dX8_answerOf_43 (by decide) ?_
        refine gz_istore hC dX8_answerOf_44 (by decide) ?_
        refine gz_goto hC 280 dX8_answerOf_46 (by decide) ?_
        refine gz_goto hC 7 dX8_answerOf_280 (by decide) ?_
        refine gz_iload hC dX8_answerOf_7 rfl ?_
        refine gz_if_ne hC 283 dX8_answerOf_9 (by decide) (fun c9 => ?_) (fun c9 => ?_)
        · refine gz_aload_n hC dX8_answerOf_283 rfl ?_
          refine gz_getR (j := 21) hC dX8_answerOf_284 cf_X8 fl_X8_51 rfl rfl (by decide) ?_
          refine gz_iload hC dX8_answerOf_287 rfl ?_
          refine gz_dald hC dX8_answerOf_289 rfl (by rw [hx4]; exact vp_in_nI (by omega) (by decide)) ?_
          exact gz_dret hC dX8_answerOf_290 ⟨K1, K2, by rw [show x4.toNatClampNeg = first by rw [hx4, nI_clamp (by omega)], k11], rfl, kI, fun z => k12 z (by decide)⟩
        · exact absurd c9 (by decide)
  -- places not laid: [9, 12, 13, 16, 18, 19, 21, 23, 24, 25, 27, 29, 30, 33, 36, 38, 40, 43, 44, 46, 49, 50, 53, 55, 56, 58, 61, 63, 64, 65, 66, 69, 70, 72, 74, 77, 80, 81, 84, 86, 87, 90, 92, 93, 95, 96, 97, 98, 101, 103, 104, 105, 106, 107, 108, 111, 112, 113, 116, 118, 119, 121, 124, 127, 128, 131, 133, 134, 135, 136, 137, 138, 141, 143, 144, 147, 148, 149, 150, 151, 153, 156, 157, 160, 162, 163, 164, 165, 166, 167, 170, 172, 173, 176, 177, 179, 181, 182, 185, 186, 187, 188, 189, 192, 193, 196, 197, 199, 200, 201, 202, 204, 205, 206, 209, 210, 212, 213, 215, 216, 217, 218, 221, 224, 225, 227, 228, 229, 231, 234, 237, 240, 241, 242, 243, 245, 247, 250, 253, 254, 256, 257, 258, 260, 263, 266, 269, 270, 273, 275, 276, 277, 278, 279, 280, 283, 284, 287, 289, 290]
end CT
