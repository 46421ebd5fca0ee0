/-! the best answer: what is won on the mean behind a last bid, by the one who answers and by the plan -/
def an_cs (t : Nat → Bool) (R : Nat → UInt64) (a : UInt64) : Nat → UInt64
  | 0 => a
  | k + 1 => cond (t k) (FP.dadd (an_cs t R a k) (R k)) (an_cs t R a k)
def an_any (R : Nat → UInt64) : Nat → Bool
  | 0 => false
  | k + 1 => an_any R k || fp_pos (R k)
/-- the one who answers: whether a move is there, what the best wins, the best -/
def an_o (W : Nat → UInt64) (la : Nat) : Nat → Bool × UInt64 × Nat
  | 0 => (false, 0, 0)
  | q + 1 => cond (tb_mf la q && (!(an_o W la q).1 || fp_gt (W q) (an_o W la q).2.1)) (true, W q, q) (an_o W la q)
def an_h (A : Nat → Bool) (C : UInt64 → UInt64) (W : Nat → UInt64) (la : Nat) : Nat → UInt64
  | 0 => 0
  | q + 1 => cond (tb_mf la q && A q) (if q = 0 then C (an_h A C W la q) else FP.dadd (an_h A C W la q) (W q)) (an_h A C W la q)
def an_R (S : Nat → Nat → Nat → UInt64) (R : Nat → UInt64) (la q : Nat) : Nat → UInt64 := fun k => FP.dmul (R k) (S k la q)
def an_W (cs : UInt64) (V : Nat → UInt64) : Nat → UInt64 := fun q => if q = 0 then cs else V q
def an_V (nO bids : Nat) (t : Nat → Nat → Bool) (S : Nat → Nat → Nat → UInt64) : Nat → Bool → Nat → (Nat → UInt64) → UInt64
  | 0 => fun _ _ _ => 0
  | n + 1 => fun own la R => cond own (an_o (an_W (an_cs (fun k => !t la k) R 0 nO) (fun q => an_V nO bids t S n false q R)) la (bids + 1)).2.1 (an_h (fun q => an_any (an_R S R la q) nO) (fun a => an_cs (t la) (an_R S R la 0) a nO) (fun q => an_V nO bids t S n true q (an_R S R la q)) la (bids + 1))
def an_ow (nO bids : Nat) (t : Nat → Nat → Bool) (S : Nat → Nat → Nat → UInt64) (n la : Nat) (R : Nat → UInt64) : Nat → UInt64 := an_W (an_cs (fun k => !t la k) R 0 nO) (fun q => an_V nO bids t S n false q R)
def an_best (nO bids : Nat) (t : Nat → Nat → Bool) (S : Nat → Nat → Nat → UInt64) (n la : Nat) (R : Nat → UInt64) : Nat := (an_o (an_ow nO bids t S n la R) la (bids + 1)).2.2
theorem an_cs_b {t : Nat → Bool} {R : Nat → UInt64} {a : UInt64} {K : Nat} (ha : fp_b K a) : ∀ n, (∀ k, k < n → fp_b K (R k)) → K + 2 * n ≤ 2045 → fp_b (K + 2 * n) (an_cs t R a n)
  | 0, _, _ => ha
  | n + 1, h, hb => by
    have h1 := an_cs_b (t := t) ha n (fun k hk => h k (by omega)) (by omega)
    unfold an_cs
    cases t n with
    | false => exact fp_b_mono h1 (by omega)
    | true => exact fp_b_mono (fp_b_add h1 (fp_b_mono (h n (by omega)) (by omega)) (by omega)) (by omega)
theorem an_o_b {W : Nat → UInt64} {la K : Nat} (hK : 1 ≤ K) : ∀ n, (∀ q, q < n → tb_mf la q = true → fp_b K (W q)) → fp_b K (an_o W la n).2.1
  | 0, _ => fp_b_mono fp_b_0 hK
  | n + 1, h => by
    have h1 := an_o_b (la := la) hK n (fun q hq => h q (by omega))
    unfold an_o
    cases e : tb_mf la n with
    | false => exact h1
    | true => cases e2 : (!(an_o W la n).1 || fp_gt (W n) (an_o W la n).2.1) with
      | false => exact h1
      | true => exact h n (by omega) e
theorem an_h_b {A : Nat → Bool} {C : UInt64 → UInt64} {W : Nat → UInt64} {la K : Nat} (hK : 1 ≤ K) (hC : fp_b K (C 0)) : ∀ n, (∀ q, q < n → tb_mf la q = true → 1 ≤ q → fp_b K (W q)) → K + 2 * n ≤ 2045 → fp_b (K + 2 * n) (an_h A C W la n)
  | 0, _, _ => fp_b_mono fp_b_0 hK
  | n + 1, h, hb => by
    have h1 := an_h_b (A := A) (W := W) (la := la) hK hC n (fun q hq => h q (by omega)) (by omega)
    unfold an_h
    cases e : tb_mf la n && A n with
    | false => exact fp_b_mono h1 (by omega)
    | true =>
      have e2 : tb_mf la n = true := by rw [Bool.and_eq_true] at e; exact e.1
      show fp_b _ (if _ then _ else _)
      by_cases e3 : n = 0
      · subst e3
        rw [if_pos rfl]
        exact fp_b_mono hC (by omega)
      · rw [if_neg e3]
        exact fp_b_mono (fp_b_add h1 (fp_b_mono (h n (by omega) e2 (by omega)) (by omega)) (by omega)) (by omega)
theorem an_h_mid {A : Nat → Bool} {C : UInt64 → UInt64} {W : Nat → UInt64} {la : Nat} : ∀ n, n ≤ la → an_h A C W la (n + 1) = an_h A C W la 1
  | 0, _ => rfl
  | n + 1, h => by
    rw [← an_h_mid n (by omega)]
    show cond (tb_mf la (n + 1) && _) _ _ = _
    rw [tb_mf_mid (by omega) h]
    rfl
theorem an_o_mid {W : Nat → UInt64} {la : Nat} : ∀ n, n ≤ la → an_o W la (n + 1) = an_o W la 1
  | 0, _ => rfl
  | n + 1, h => by
    rw [← an_o_mid n (by omega)]
    show cond (tb_mf la (n + 1) && _) _ _ = _
    rw [tb_mf_mid (by omega) h]
    rfl
/-- the bounds of what is handed to it -/
def an_ok (nO bids : Nat) (S : Nat → Nat → Nat → UInt64) : Prop := nO ≤ 4 ∧ bids ≤ 8 ∧ 2 ≤ bids ∧ ∀ k, k < nO → ∀ la, la ≤ bids → ∀ q, q ≤ bids → fp_b 1057 (S k la q)
theorem an_R_b {nO bids : Nat} {S : Nat → Nat → Nat → UInt64} (hA : an_ok nO bids S) {R : Nat → UInt64} {K : Nat} (hK : 1024 ≤ K) (hK2 : K ≤ 2000) (hR : ∀ k, k < nO → fp_b K (R k)) {la q : Nat} (hla : la ≤ bids) (hq : q ≤ bids) : ∀ k, k < nO → fp_b (K + 35) (an_R S R la q k) := by
  intro k hk
  exact fp_b_mono (fp_b_mul (hR k hk) (hA.2.2.2 k hk la hla q hq) (by omega) (by omega) (by omega) (by omega)) (by omega)
theorem an_V_b {nO bids : Nat} {t : Nat → Nat → Bool} {S : Nat → Nat → Nat → UInt64} (hA : an_ok nO bids S) : ∀ n own la (R : Nat → UInt64) (K : Nat), la ≤ bids → 1024 ≤ K → K + 8 + 60 * n ≤ 1990 → (∀ k, k < nO → fp_b K (R k)) → fp_b (K + 8 + 60 * n) (an_V nO bids t S n own la R)
  | 0, _, _, _, _, _, hK, _, _ => fp_b_mono fp_b_0 (by omega)
  | n + 1, true, la, R, K, hla, hK, hK2, hR => by
    have hnO := hA.1
    show fp_b _ (an_o _ _ _).2.1
    refine an_o_b (by omega) (bids + 1) (fun q hq hm => ?_)
    show fp_b _ (if _ then _ else _)
    split
    · exact fp_b_mono (an_cs_b (fp_b_mono fp_b_0 (show 1 ≤ K by omega)) nO hR (by omega)) (by omega)
    · exact fp_b_mono (an_V_b hA n false q R K (by omega) hK (by omega) hR) (by omega)
  | n + 1, false, la, R, K, hla, hK, hK2, hR => by
    have hnO := hA.1
    have hbd := hA.2.1
    show fp_b _ (an_h _ _ _ _ _)
    refine fp_b_mono (an_h_b (K := K + 35 + 8 + 60 * n) (by omega) ?_ (bids + 1) (fun q hq hm _ => ?_) (by omega)) (by omega)
    · exact fp_b_mono (an_cs_b (fp_b_mono fp_b_0 (show 1 ≤ K + 35 by omega)) nO (an_R_b hA hK (by omega) hR hla (Nat.zero_le _)) (by omega)) (by omega)
    · exact an_V_b hA n true q _ (K + 35) (by omega) (by omega) (by omega) (an_R_b hA hK (by omega) hR hla (by omega))
theorem an_any_pos {R : Nat → UInt64} : ∀ n, an_any R (n + 1) = (an_any R n || fp_pos (R n)) := fun _ => rfl
