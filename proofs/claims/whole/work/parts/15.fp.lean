/-! doubles that are not below 0 and below a power of two: sums, products, quotients of such; compares -/
def fp_b (K : Nat) (x : UInt64) : Prop := x.toNat < K * 2 ^ 52
theorem fp_b_mono {K L : Nat} {x : UInt64} (h : fp_b K x) (hKL : K ≤ L) : fp_b L x := Nat.lt_of_lt_of_le h (Nat.mul_le_mul_right _ hKL)
theorem fp_b_mod {K : Nat} {x : UInt64} (h : fp_b K x) (hK : K ≤ 2047) : x.toNat % 2 ^ 63 = x.toNat ∧ x.toNat < 2 ^ 63 := by
  unfold fp_b at h
  have : x.toNat < 2 ^ 63 := by omega
  exact ⟨Nat.mod_eq_of_lt this, this⟩
theorem fp_b_mag {K : Nat} {x : UInt64} (h : fp_b K x) (hK : K ≤ 2047) : x.toNat % 2 ^ 63 < K * 2 ^ 52 := by rw [(fp_b_mod h hK).1]; exact h
theorem fp_b_fin {K : Nat} {x : UInt64} (h : fp_b K x) (hK : K ≤ 2047) : ∃ c q, FP.Core.val64 x = .fin false c q := by
  obtain ⟨s, c, q, e⟩ := FP.Core.fin_of_lt (fp_b_mag h hK) hK
  have hn : FP.Core.val64 x ≠ .nan := by rw [e]; exact FP.Core.Datum.noConfusion
  have hs := FP.Core.sgn_bits hn
  rw [e] at hs
  have h2 := (fp_b_mod h hK).2
  have : s = false := by
    show s = false
    rw [show s = decide (2 ^ 63 ≤ x.toNat) from hs]
    exact decide_eq_false (by omega)
  subst this
  exact ⟨c, q, e⟩
theorem fp_b_of {K : Nat} {x : UInt64} (hm : x.toNat % 2 ^ 63 < K * 2 ^ 52) (hK : K ≤ 2047) (hs : FP.Core.sgn (FP.Core.val64 x) = false) : fp_b K x := by
  obtain ⟨s, c, q, e⟩ := FP.Core.fin_of_lt hm hK
  have hn : FP.Core.val64 x ≠ .nan := by rw [e]; exact FP.Core.Datum.noConfusion
  have h1 := FP.Core.sgn_bits hn
  rw [hs] at h1
  have h2 : ¬ 2 ^ 63 ≤ x.toNat := fun q => absurd h1 (by rw [decide_eq_true q]; decide)
  unfold fp_b
  rw [Nat.mod_eq_of_lt (by omega)] at hm
  exact hm
theorem fp_b_n64 {K : Nat} {x : UInt64} (h : fp_b K x) (hK : K ≤ 2047) : vf_n64 x := by
  unfold vf_n64
  rw [UInt64.le_iff_toNat_le, FP.Core.mask_toNat, (fp_b_mod h hK).1]
  unfold fp_b at h
  show x.toNat ≤ 9218868437227405312
  omega
theorem fp_b_add {K : Nat} {a b : UInt64} (ha : fp_b K a) (hb : fp_b K b) (hK : K ≤ 2045) : fp_b (K + 2) (FP.dadd a b) := by
  refine fp_b_of (FP.Core.dadd_mag (fp_b_mag ha (by omega)) (fp_b_mag hb (by omega)) (by omega)) (by omega) ?_
  obtain ⟨c, q, ea⟩ := fp_b_fin ha (by omega)
  obtain ⟨d, r, eb⟩ := fp_b_fin hb (by omega)
  rw [show FP.dadd a b = FP.Core.dadd a b from rfl, FP.Core.val64_dadd, ea, eb]
  show FP.Core.sgn (FP.Core.roundRatio FP.Core.b64 (FP.Core.sumSign false false (FP.Core.sumUnits false c q false d r (min q r))) _ 1 _) = false
  rw [FP.Core.sgn_roundRatio]
  unfold FP.Core.sumSign
  have hp : 0 ≤ FP.Core.sumUnits false c q false d r (min q r) := by
    unfold FP.Core.sumUnits FP.Core.signed
    simp only [Bool.false_eq_true, if_false]
    omega
  split
  · rfl
  · exact decide_eq_false (by omega)
theorem fp_b_mul {K L : Nat} {a b : UInt64} (ha : fp_b K a) (hb : fp_b L b) (hK : K ≤ 2047) (hL : L ≤ 2047) (h1 : 1025 ≤ K + L) (h2 : K + L ≤ 3069) : fp_b (K + L - 1022) (FP.dmul a b) := by
  have hm := FP.Core.dmul_mag (fp_b_mag ha hK) (fp_b_mag hb hL) hK hL
  refine fp_b_of (by rw [show K + L - 1022 = K + L - 1025 + 3 by omega]; exact hm) (by omega) ?_
  obtain ⟨c, q, ea⟩ := fp_b_fin ha hK
  obtain ⟨d, r, eb⟩ := fp_b_fin hb hL
  rw [show FP.dmul a b = FP.Core.dmul a b from rfl, FP.Core.val64_dmul, ea, eb]
  show FP.Core.sgn (FP.Core.roundRatio FP.Core.b64 (false != false) _ 1 _) = false
  rw [FP.Core.sgn_roundRatio]
  rfl
/-- a divisor that is at least 1 -/
theorem fp_b_div {K L : Nat} {a b : UInt64} (ha : fp_b K a) (hb : fp_b L b) (hb1 : 1023 * 2 ^ 52 ≤ b.toNat) (hK0 : 2 ≤ K) (hK : K ≤ 2046) (hL : L ≤ 2047) : fp_b (K + 1) (FP.ddiv a b) := by
  have hb2 := fp_b_mag hb hL
  have hm := FP.Core.ddiv_mag (a := a) (b := b) (K := K) (L := 1023) (fp_b_mag ha (by omega)) (by rw [(fp_b_mod hb hL).1]; exact hb1) (Nat.lt_of_lt_of_le hb2 (Nat.mul_le_mul_right _ hL)) (by omega) (by decide)
  refine fp_b_of (by rw [show K + 1 = K + (1074 - 52 - 1) - 1023 + 3 by omega]; exact hm) (by omega) ?_
  obtain ⟨c, q, ea⟩ := fp_b_fin ha (by omega)
  obtain ⟨d, r, eb⟩ := fp_b_fin hb hL
  have hd : ¬ d = 0 := by
    intro e
    subst e
    have hz := (FP.Core.zero_bits2 b).mp ⟨false, r, eb⟩
    rw [(fp_b_mod hb hL).1] at hz
    omega
  rw [show FP.ddiv a b = FP.Core.ddiv a b from rfl, FP.Core.val64_ddiv, ea, eb]
  show FP.Core.sgn (if d = 0 then _ else _) = false
  rw [if_neg hd, FP.Core.sgn_roundRatio]
  rfl
theorem fp_b_0 : fp_b 1 0 := by unfold fp_b; decide
theorem fp_b_1 : fp_b 1024 4607182418800017408 := by unfold fp_b; decide
/-- a whole number that is not below 0, as a double -/
theorem fp_b_i2d {n : Nat} (hn : n < 2 ^ 31) : fp_b 1056 (FP.i2d (nI n)) := by
  refine fp_b_of (FP.Core.i2d_mag _) (by decide) ?_
  rw [show FP.i2d (nI n) = FP.Core.i2d (nI n) from rfl, FP.Core.val64_i2d]
  show FP.Core.sgn (FP.Core.roundRatio FP.Core.b64 (decide ((nI n).toInt < 0)) _ 1 _) = false
  rw [FP.Core.sgn_roundRatio, nI_toInt hn]
  exact decide_eq_false (by omega)
theorem fp_i2d_1 {n : Nat} (h0 : 0 < n) (hn : n < 2 ^ 31) : 1023 * 2 ^ 52 ≤ (FP.i2d (nI n)).toNat := by
  have h1 := (FP.Core.i2d_big (v := nI n) (by rw [nI_toInt hn]; omega)).1
  rw [(fp_b_mod (fp_b_i2d hn) (by decide)).1] at h1
  exact h1
/-- above 0 -/
def fp_pos (x : UInt64) : Bool := decide (FP.dcmp x 0 = some .gt)
def fp_gt (x y : UInt64) : Bool := decide (FP.dcmp x y = some .gt)
theorem fp_lle (o : Option Ordering) : Op.cmpValue o .l ≤ 0 ↔ o ≠ some .gt := by
  cases o with
  | none => decide
  | some o => cases o <;> decide
theorem fp_leF {x y : UInt64} (h : Op.cmpValue (FP.dcmp x y) .l ≤ 0) : fp_gt x y = false := decide_eq_false ((fp_lle _).mp h)
theorem fp_leT {x y : UInt64} (h : ¬ Op.cmpValue (FP.dcmp x y) .l ≤ 0) : fp_gt x y = true := by
  refine decide_eq_true ?_
  rcases Classical.em (FP.dcmp x y = some .gt) with q | q
  · exact q
  · exact absurd ((fp_lle _).mpr q) h
theorem fp_cmp {K L : Nat} {x y : UInt64} (hx : fp_b K x) (hy : fp_b L y) (hK : K ≤ 2047) (hL : L ≤ 2047) : FP.dcmp x y = some (compare (x.toNat : Int) (y.toNat : Int)) := by
  obtain ⟨c, q, ea⟩ := fp_b_fin hx hK
  obtain ⟨d, r, eb⟩ := fp_b_fin hy hL
  have h1 := (fp_b_mod hx hK).2
  have h2 := (fp_b_mod hy hL).2
  have h3 := FP.Core.dcmp_key (a := x) (b := y) (by rw [ea]; exact FP.Core.Datum.noConfusion) (by rw [eb]; exact FP.Core.Datum.noConfusion)
  unfold FP.Core.dkey at h3
  rw [if_neg (by omega), if_neg (by omega)] at h3
  exact h3
theorem fp_gt_iff {K L : Nat} {x y : UInt64} (hx : fp_b K x) (hy : fp_b L y) (hK : K ≤ 2047) (hL : L ≤ 2047) : fp_gt x y = decide (y.toNat < x.toNat) := by
  unfold fp_gt
  rw [fp_cmp hx hy hK hL]
  by_cases h : y.toNat < x.toNat
  · rw [decide_eq_true h]
    exact decide_eq_true (congrArg some ((FP.Core.compare_gt_iff _ _).mpr (by omega)))
  · rw [decide_eq_false h]
    refine decide_eq_false (fun q => h ?_)
    have := (FP.Core.compare_gt_iff _ _).mp (Option.some.inj q)
    omega
theorem fp_pos_iff {K : Nat} {x : UInt64} (hx : fp_b K x) (hK : K ≤ 2047) : fp_pos x = decide (x ≠ 0) := by
  have h := fp_gt_iff hx fp_b_0 hK (by decide)
  rw [show fp_pos x = fp_gt x 0 from rfl, h]
  by_cases e : x = 0
  · subst e; decide
  · have h2 : x.toNat ≠ 0 := fun q => e (UInt64.toNat_inj.mp (by rw [q]; rfl))
    rw [decide_eq_true e]
    exact decide_eq_true (by show 0 < x.toNat; omega)
