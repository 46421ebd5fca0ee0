/-! the bits of a double that is not below 0 -/
theorem lN_toInt63 {n : Nat} (h : n < 2 ^ 63) : (lN n).toInt = (n : Int) := pk_lT h
section GZ2
variable {p : Program} {l : Launch} {e : Env} {R : Room} {s : State} {m : MethodId} {args : Array Value} {below : List Frame} {meth : Method} {c : Code} {D : va_G} {ad : Nat → Nat} {cy : Nat → ClassId} {lay : List gz_C} {nL : Nat} {Q : State → Prop} {I : Nat → Nat → Int32} {G : Nat → Nat → UInt64} {pc : Nat} {lv : List (Nat × Value)} {st : List Value} {own : String} {cc : ByteArray} {ret : Option FieldType}
theorem gz_lcmp (hC : gz_X p s m args meth c own cc ret nL D ad cy lay) {x y : Int64} (hd : decode cc pc = .ok (.lcmp, 1)) (kk : gz_W p l e R s m args below meth c D ad cy lay nL Q (I, G) (pc + 1) lv (.int (lg_cmp x y) :: st)) : gz_W p l e R s m args below meth c D ad cy lay nL Q (I, G) pc lv (.long y :: .long x :: st) := fun H locs ls hP hS hL => W.lcmp hC.1 hC.2.1 hd (kk H locs ls hP hS hL)
end GZ2
def fp_u (x : UInt64) : Nat := FP.Core.unitsOf FP.Core.b64 x.toNat
theorem fp_tails : FP.Core.b64.tails = 4503599627370496 := by decide
theorem fp_u_def (n : Nat) : FP.Core.unitsOf FP.Core.b64 n = if n < 4503599627370496 then n else (4503599627370496 + n % 4503599627370496) * 2 ^ (n / 4503599627370496 - 1) := by
  unfold FP.Core.unitsOf
  rw [fp_tails]
theorem fp_zmag {K : Nat} {x : UInt64} (h : fp_b K x) (hK : K ≤ 2047) : FP.Core.zmag FP.Core.b64 (FP.Core.val64 x) = fp_u x := by
  obtain ⟨c, q, e⟩ := fp_b_fin h hK
  rw [FP.Core.zmag_bits (by rw [e]; exact FP.Core.Datum.noConfusion), (fp_b_mod h hK).1]
  rfl
/-- an exact product, by its bits -/
theorem fp_mul_ex {K L n : Nat} {x y : UInt64} (hx : fp_b K x) (hy : fp_b L y) (hK : K ≤ 2047) (hL : L ≤ 2047) (h1 : 1025 ≤ K + L) (h2 : K + L ≤ 3069) (hn : n ≤ 9218868437227405312) (he : FP.Core.unitsOf FP.Core.b64 n * 2 ^ 1074 = fp_u x * fp_u y) : (FP.dmul x y).toNat = n := by
  have hb := fp_b_mul hx hy hK hL h1 h2
  obtain ⟨c, q, ea⟩ := fp_b_fin hx hK
  obtain ⟨d, r, eb⟩ := fp_b_fin hy hL
  have zx := fp_zmag hx hK
  have zy := fp_zmag hy hL
  have fx := FP.Core.val64_fits x
  have fy := FP.Core.val64_fits y
  rw [ea] at zx fx
  rw [eb] at zy fy
  obtain ⟨p1, p2, p3⟩ := FP.Core.product_units fx fy
  have hd : FP.Core.decode FP.Core.b64 (FP.dmul x y).toNat = FP.Core.roundRatio FP.Core.b64 (false != false) (c * d) 1 (q + r) := by
    have := FP.Core.val64_dmul x y
    rw [ea, eb, p1] at this
    exact this
  have e0 : (FP.Core.b64.qmin - 2 * FP.Core.b64.qmin).toNat = 1074 := by decide
  have hle := FP.Core.mag_le (m := n) FP.Core.good_b64 hd (by decide) (e0 := 2 * FP.Core.b64.qmin) (by decide) p2 (by rw [p3, zx, zy, e0, Nat.mul_one, he]; exact Nat.le_refl _)
  have hge := FP.Core.mag_ge (m := n) FP.Core.good_b64 hd (by decide) (e0 := 2 * FP.Core.b64.qmin) (by decide) p2 (by rw [FP.Core.infBits_b64]; exact hn) (by rw [p3, zx, zy, e0, Nat.mul_one, he]; exact Nat.le_refl _)
  rw [FP.Core.mag_toNat64, (fp_b_mod hb (by omega)).1] at hle hge
  omega
theorem fp_two : fp_b 1025 4611686018427387904 := by unfold fp_b; decide
theorem fp_u_two : fp_u 4611686018427387904 = 2 ^ 1075 := by unfold fp_u; rw [fp_u_def]; decide +kernel
/-- twice a double -/
theorem fp_mul2 {K : Nat} {x : UInt64} (hx : fp_b K x) (hK1 : 1 ≤ K) (hK : K ≤ 2040) : (FP.dmul x 4611686018427387904).toNat = (if x.toNat < 4503599627370496 then 2 * x.toNat else x.toNat + 4503599627370496) ∧ FP.Core.unitsOf FP.Core.b64 (FP.dmul x 4611686018427387904).toNat = 2 * fp_u x := by
  have hu : FP.Core.unitsOf FP.Core.b64 (if x.toNat < 4503599627370496 then 2 * x.toNat else x.toNat + 4503599627370496) = 2 * fp_u x := by
    unfold fp_u
    rw [fp_u_def x.toNat]
    by_cases h : x.toNat < 4503599627370496
    · rw [if_pos h, if_pos h, fp_u_def]
      by_cases h2 : 2 * x.toNat < 4503599627370496
      · rw [if_pos h2]
      · rw [if_neg h2, show 2 * x.toNat / 4503599627370496 = 1 by omega, Nat.sub_self, Nat.pow_zero]
        omega
    · rw [if_neg h, if_neg h, fp_u_def, if_neg (by omega), Nat.add_mod_right, Nat.add_div_right _ (by decide), Nat.succ_sub_one]
      obtain ⟨z, hz⟩ : ∃ z, x.toNat / 4503599627370496 = z + 1 := ⟨x.toNat / 4503599627370496 - 1, by omega⟩
      rw [hz, Nat.add_sub_cancel, Nat.pow_succ]
      ac_rfl
  have hn := fp_mul_ex (n := if x.toNat < 4503599627370496 then 2 * x.toNat else x.toNat + 4503599627370496) hx fp_two (by omega) (by decide) (by omega) (by omega) (by unfold fp_b at hx; split <;> omega) (by rw [hu, fp_u_two, show (2 : Nat) ^ 1075 = 2 ^ 1074 * 2 from Nat.pow_succ 2 1074, Nat.mul_comm 2 (fp_u x), Nat.mul_assoc, Nat.mul_comm 2 (2 ^ 1074)])
  exact ⟨hn, by rw [hn]; exact hu⟩
theorem fp_val_two : FP.Core.val64 4611686018427387904 = .fin false 4503599627370496 (-51) := by decide +kernel
/-- half a double that is normal twice over -/
theorem fp_div2 {K : Nat} {x : UInt64} (hx : fp_b K x) (hK0 : 2 ≤ K) (hK : K ≤ 2040) (hx2 : 9007199254740992 ≤ x.toNat) : (FP.ddiv x 4611686018427387904).toNat = x.toNat - 4503599627370496 := by
  have hb := fp_b_div hx fp_two (by decide) hK0 (by omega) (by decide)
  obtain ⟨c, q, ea⟩ := fp_b_fin hx (by omega)
  have zx := fp_zmag hx (by omega)
  have fx := FP.Core.val64_fits x
  rw [ea] at zx fx
  have hd : FP.Core.decode FP.Core.b64 (FP.ddiv x 4611686018427387904).toNat = FP.Core.roundRatio FP.Core.b64 (false != false) c 4503599627370496 (q - -51) := by
    have := FP.Core.val64_ddiv x 4611686018427387904
    rw [ea, fp_val_two] at this
    exact this
  have hq : FP.Core.b64.qmin ≤ q := fx.2.1
  have hz : FP.Core.inUnits c q FP.Core.b64.qmin = fp_u x := zx
  have hu : 2 * FP.Core.unitsOf FP.Core.b64 (x.toNat - 4503599627370496) = fp_u x := by
    unfold fp_u
    rw [fp_u_def, fp_u_def x.toNat, if_neg (by omega), if_neg (by omega), ← Nat.mod_eq_sub_mod (show 4503599627370496 ≤ x.toNat by omega)]
    obtain ⟨z, hz⟩ : ∃ z, x.toNat / 4503599627370496 = z + 2 := ⟨x.toNat / 4503599627370496 - 2, by omega⟩
    have h3 : (x.toNat - 4503599627370496) / 4503599627370496 = z + 1 := by omega
    rw [hz, h3, show z + 2 - 1 = z + 1 by omega, Nat.add_sub_cancel, Nat.pow_succ]
    ac_rfl
  have h51 : FP.Core.inUnits c (q - -51) FP.Core.b64.qmin = fp_u x * 2 ^ 51 := by
    rw [← hz]
    unfold FP.Core.inUnits
    rw [show (q - -51 - FP.Core.b64.qmin).toNat = (q - FP.Core.b64.qmin).toNat + 51 by omega, Nat.pow_add, Nat.mul_assoc]
  have e0 : (FP.Core.b64.qmin - FP.Core.b64.qmin).toNat = 0 := by decide
  have hkey : FP.Core.unitsOf FP.Core.b64 (x.toNat - 4503599627370496) * 2 ^ (FP.Core.b64.qmin - FP.Core.b64.qmin).toNat * 4503599627370496 = FP.Core.inUnits c (q - -51) FP.Core.b64.qmin := by
    rw [h51, e0, ← hu, Nat.pow_zero, Nat.mul_one]
    omega
  have hxb : x.toNat < 2040 * 2 ^ 52 := fp_b_mono hx hK
  have hle := FP.Core.mag_le (m := x.toNat - 4503599627370496) FP.Core.good_b64 hd (by decide) (e0 := FP.Core.b64.qmin) (Int.le_refl _) (by omega) (by rw [hkey]; exact Nat.le_refl _)
  have hge := FP.Core.mag_ge (m := x.toNat - 4503599627370496) FP.Core.good_b64 hd (by decide) (e0 := FP.Core.b64.qmin) (Int.le_refl _) (by omega) (by rw [FP.Core.infBits_b64]; omega) (by rw [hkey]; exact Nat.le_refl _)
  rw [FP.Core.mag_toNat64, (fp_b_mod hb (by omega)).1] at hle hge
  omega
theorem fp_c52 : fp_b 1076 4841369599423283200 := by unfold fp_b; decide
theorem fp_u_c52 : fp_u 4841369599423283200 = 2 ^ 52 * 2 ^ 1074 := by unfold fp_u; rw [fp_u_def]; decide +kernel
/-- the whole number that 2^52 times a double below 2 is -/
theorem fp_d2l {x : UInt64} {n : Nat} (hx : fp_b 1024 x) (hn : n < 2 ^ 53) (hu : fp_u x = n * 2 ^ 1022) : FP.d2l (FP.dmul x 4841369599423283200) = lN n ∧ vf_n64 (FP.dmul x 4841369599423283200) := by
  have hb := fp_b_mul hx fp_c52 (by decide) (by decide) (by decide) (by decide)
  refine ⟨?_, fp_b_n64 hb (by decide)⟩
  obtain ⟨c, q, ea⟩ := fp_b_fin hb (by decide)
  have hnn : FP.Core.val64 (FP.dmul x 4841369599423283200) ≠ .nan := by rw [ea]; exact FP.Core.Datum.noConfusion
  have hz := fp_zmag hb (by decide)
  -- the product is exact: its units are n * 2^1074
  have hw : ∃ b : Nat, b ≤ 9218868437227405312 ∧ FP.Core.unitsOf FP.Core.b64 b = n * 2 ^ 1074 := by
    by_cases h0 : n = 0
    · subst h0
      exact ⟨0, by decide, by rw [fp_u_def, if_pos (by decide), Nat.zero_mul]⟩
    · have hl : n < 2 ^ (n.log2 + 1) := Nat.lt_log2_self
      have hg : 2 ^ n.log2 ≤ n := Nat.log2_self_le h0
      have hk : n.log2 ≤ 52 := by
        rcases Nat.lt_or_ge 52 n.log2 with w | w
        · have := Nat.pow_le_pow_right (show 0 < 2 by decide) w
          omega
        · exact w
      refine ⟨(n.log2 + 1023) * 4503599627370496 + (n * 2 ^ (52 - n.log2) - 4503599627370496), ?_, ?_⟩
      · have h1 : n * 2 ^ (52 - n.log2) < 2 ^ (n.log2 + 1) * 2 ^ (52 - n.log2) := Nat.mul_lt_mul_of_pos_right hl (Nat.two_pow_pos _)
        rw [← Nat.pow_add, show n.log2 + 1 + (52 - n.log2) = 53 by omega] at h1
        omega
      · have h1 : n * 2 ^ (52 - n.log2) < 2 ^ (n.log2 + 1) * 2 ^ (52 - n.log2) := Nat.mul_lt_mul_of_pos_right hl (Nat.two_pow_pos _)
        rw [← Nat.pow_add, show n.log2 + 1 + (52 - n.log2) = 53 by omega] at h1
        have h2 : 2 ^ n.log2 * 2 ^ (52 - n.log2) ≤ n * 2 ^ (52 - n.log2) := Nat.mul_le_mul_right _ hg
        rw [← Nat.pow_add, show n.log2 + (52 - n.log2) = 52 by omega] at h2
        obtain ⟨v, hv⟩ : ∃ v, n * 2 ^ (52 - n.log2) = 4503599627370496 + v := ⟨n * 2 ^ (52 - n.log2) - 4503599627370496, by omega⟩
        rw [hv, Nat.add_sub_cancel_left, fp_u_def, if_neg (by omega), Nat.mul_add_mod_self_right, Nat.mod_eq_of_lt (by omega), ← hv, show ((n.log2 + 1023) * 4503599627370496 + v) / 4503599627370496 - 1 = n.log2 + 1022 by omega, Nat.mul_assoc, ← Nat.pow_add, show 52 - n.log2 + (n.log2 + 1022) = 1074 by omega]
  obtain ⟨b, hb1, hb2⟩ := hw
  have he := fp_mul_ex (n := b) hx fp_c52 (by decide) (by decide) (by decide) (by decide) hb1 (by rw [hb2, hu, fp_u_c52, show (1074 : Nat) = 1022 + 52 from rfl, Nat.pow_add]; generalize (2 : Nat) ^ 1022 = z; generalize (2 : Nat) ^ 52 = z2; ac_rfl)
  have hzz : FP.Core.zmag FP.Core.b64 (FP.Core.val64 (FP.dmul x 4841369599423283200)) = n * 2 ^ 1074 := by
    rw [hz]
    unfold fp_u
    rw [he, hb2]
  have h9 := FP.Core.d2l_val hnn
  rw [hzz, ea, show FP.Core.sgn (FP.Core.Datum.fin false c q) = false from rfl, show FP.Core.one64 = 2 ^ 1074 from rfl, Nat.mul_div_cancel _ (Nat.two_pow_pos _)] at h9
  have h10 : FP.Core.signed false n = (n : Int) := rfl
  rw [h10] at h9
  apply Int64.toInt_inj.mp
  rw [show FP.d2l (FP.dmul x 4841369599423283200) = FP.Core.d2l (FP.dmul x 4841369599423283200) from rfl, h9, lN_toInt63 (by omega)]
  omega
