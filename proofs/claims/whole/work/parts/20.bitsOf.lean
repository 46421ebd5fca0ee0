/-! the bits, told by halving and doubling (wb_ rows: of the kit, pasted) -/
theorem wb_tb (n : Nat) : (lN n).toBitVec = BitVec.ofNat 64 n := rfl
theorem wb_inj {a b : Int64} (h : a.toBitVec = b.toBitVec) : a = b := Int64.toBitVec_inj.mp h
theorem wb_c : ∀ k, k < 64 → ((nI k).toInt64 &&& 63) = lN k := by decide +kernel
theorem wb_sm : ∀ k, k < 64 → (BitVec.ofNat 64 k).smod 64 = BitVec.ofNat 64 k := by decide +kernel
theorem wb_shl (n : Nat) {k : Nat} (hk : k < 64) : lN n <<< ((nI k).toInt64 &&& 63) = lN (n * 2 ^ k) := by
  rw [wb_c k hk]
  apply wb_inj
  rw [Int64.toBitVec_shiftLeft, wb_tb, wb_tb, wb_tb, wb_sm k hk]
  apply BitVec.eq_of_toNat_eq
  rw [BitVec.shiftLeft_eq', BitVec.toNat_shiftLeft, BitVec.toNat_ofNat, BitVec.toNat_ofNat, BitVec.toNat_ofNat, Nat.mod_eq_of_lt (show k < 2 ^ 64 by omega), Nat.shiftLeft_eq, Nat.mul_mod, Nat.mod_mod, ← Nat.mul_mod]
theorem fp_llt {K L : Nat} {x y : UInt64} (hx : fp_b K x) (hy : fp_b L y) (hK : K ≤ 2047) (hL : L ≤ 2047) : Op.cmpValue (FP.dcmp x y) .l < 0 ↔ x.toNat < y.toNat := by
  rw [fp_cmp hx hy hK hL]
  have h := FP.Core.compare_lt_iff (x.toNat : Int) (y.toNat : Int)
  cases e : compare (x.toNat : Int) (y.toNat : Int) with
  | lt => exact ⟨fun _ => by have := h.mp e; omega, fun _ => by decide⟩
  | eq => exact ⟨fun q => absurd q (by decide), fun q => by have := h.mpr (by omega); rw [e] at this; cases this⟩
  | gt => exact ⟨fun q => absurd q (by decide), fun q => by have := h.mpr (by omega); rw [e] at this; cases this⟩
theorem fp_gge {K L : Nat} {x y : UInt64} (hx : fp_b K x) (hy : fp_b L y) (hK : K ≤ 2047) (hL : L ≤ 2047) : 0 ≤ Op.cmpValue (FP.dcmp x y) .g ↔ y.toNat ≤ x.toNat := by
  rw [fp_cmp hx hy hK hL]
  have h := FP.Core.compare_lt_iff (x.toNat : Int) (y.toNat : Int)
  cases e : compare (x.toNat : Int) (y.toNat : Int) with
  | lt => exact ⟨fun q => absurd q (by decide), fun q => by have := h.mp e; omega⟩
  | eq => exact ⟨fun _ => by rcases Nat.lt_or_ge x.toNat y.toNat with w | w; (have := h.mpr (by omega); rw [e] at this; cases this); exact w, fun _ => by decide⟩
  | gt => exact ⟨fun _ => by rcases Nat.lt_or_ge x.toNat y.toNat with w | w; (have := h.mpr (by omega); rw [e] at this; cases this); exact w, fun _ => by decide⟩
/-- what the two parts of the answer are -/
def fp_res (x : UInt64) (ez b0 : Nat) : Prop := ∃ n, n < 2 ^ 53 ∧ fp_u x = n * 2 ^ 1022 ∧ (ez - 1) * 4503599627370496 + n = b0
theorem fp_u_inj {a b : Nat} (h : FP.Core.unitsOf FP.Core.b64 a = FP.Core.unitsOf FP.Core.b64 b) : a = b := by
  have h1 := (FP.Core.unitsOf_le_iff (f := FP.Core.b64) (m := a) (k := b)).mp (by omega)
  have h2 := (FP.Core.unitsOf_le_iff (f := FP.Core.b64) (m := b) (k := a)).mp (by omega)
  omega
theorem fp_u_one {x : UInt64} (h1 : 1023 * 4503599627370496 ≤ x.toNat) (h2 : x.toNat < 1024 * 4503599627370496) : fp_u x = (x.toNat - 1022 * 4503599627370496) * 2 ^ 1022 := by
  unfold fp_u
  rw [fp_u_def, if_neg (by omega), show x.toNat / 4503599627370496 - 1 = 1022 by omega, show 4503599627370496 + x.toNat % 4503599627370496 = x.toNat - 1022 * 4503599627370496 by omega]
theorem fp_resA {x : UInt64} {ez b0 : Nat} (h1 : 1023 * 4503599627370496 ≤ x.toNat) (h2 : x.toNat < 1024 * 4503599627370496) (he : 1023 ≤ ez) (hb : x.toNat + (ez - 1023) * 4503599627370496 = b0) : fp_res x ez b0 := ⟨x.toNat - 1022 * 4503599627370496, by omega, fp_u_one h1 h2, by omega⟩
theorem fp_resB {x : UInt64} {ez b0 : Nat} (h1 : 1023 * 4503599627370496 ≤ x.toNat) (h2 : x.toNat < 1024 * 4503599627370496) (he : 1 ≤ ez) (he2 : ez ≤ 1023) (hu : fp_u x = FP.Core.unitsOf FP.Core.b64 b0 * 2 ^ (1023 - ez)) : fp_res x ez b0 := by
  refine ⟨x.toNat - 1022 * 4503599627370496, by omega, fp_u_one h1 h2, ?_⟩
  have hb : x.toNat - (1023 - ez) * 4503599627370496 = b0 := by
    apply fp_u_inj
    apply Nat.eq_of_mul_eq_mul_right (Nat.two_pow_pos (1023 - ez))
    rw [← hu, fp_u_one h1 h2, fp_u_def, if_neg (by omega)]
    have a1 : (x.toNat - (1023 - ez) * 4503599627370496) / 4503599627370496 - 1 = ez - 1 := by omega
    have a2 : 4503599627370496 + (x.toNat - (1023 - ez) * 4503599627370496) % 4503599627370496 = x.toNat - 1022 * 4503599627370496 := by omega
    rw [a1, a2, Nat.mul_assoc, ← Nat.pow_add, show ez - 1 + (1023 - ez) = 1022 by omega]
  omega
theorem fp_resC {x : UInt64} {b0 : Nat} (h2 : x.toNat < 1023 * 4503599627370496) (hu : fp_u x = FP.Core.unitsOf FP.Core.b64 b0 * 2 ^ (1023 - 1)) : fp_res x 1 b0 := by
  have hlt : FP.Core.unitsOf FP.Core.b64 b0 < 4503599627370496 := by
    have h3 : ¬ FP.Core.unitsOf FP.Core.b64 (1023 * 4503599627370496) ≤ FP.Core.unitsOf FP.Core.b64 x.toNat := fun q => by have := FP.Core.unitsOf_le_iff.mp q; omega
    have h4 : FP.Core.unitsOf FP.Core.b64 (1023 * 4503599627370496) = 4503599627370496 * 2 ^ 1022 := by
      rw [fp_u_def, if_neg (by decide)]
    rw [h4] at h3
    have h5 : FP.Core.unitsOf FP.Core.b64 x.toNat = FP.Core.unitsOf FP.Core.b64 b0 * 2 ^ 1022 := hu
    rw [h5] at h3
    rcases Nat.lt_or_ge (FP.Core.unitsOf FP.Core.b64 b0) 4503599627370496 with w | w
    · exact w
    · exact absurd (Nat.mul_le_mul_right _ w) h3
  have hb : FP.Core.unitsOf FP.Core.b64 b0 = b0 := by
    apply fp_u_inj
    rw [fp_u_def (FP.Core.unitsOf FP.Core.b64 b0), if_pos hlt]
  refine ⟨b0, by omega, by rw [hu, hb], ?_⟩
  rw [Nat.sub_self, Nat.zero_mul, Nat.zero_add]
section CT
variable {l : Launch} {D : va_G} {ad : Nat → Nat} {cy : Nat → ClassId}
set_option maxHeartbeats 4000000 in
set_option maxRecDepth 100000 in
theorem ct_X7_bitsOf (hJ : gz_inj ad lx_lay) (I : Nat → Nat → Int32) (G : Nat → Nat → UInt64) (v0 : UInt64) (hv : fp_b 1700 v0) : gz_Ct l D ad cy lx_lay yX7_bitsOf cX7_bitsOf 6 (some .long) 0 [.double v0] (I, G) (fun v M1 => v = some (.long (lN v0.toNat)) ∧ M1 = (I, G)) := by
  refine gz_met (by decide +kernel) hJ (Nat.le_of_ble_eq_true rfl) ?_
  intro p e s m args below meth c hC
  have fin : ∀ (x : UInt64) (z : Int64) (ez : Nat) (hx : fp_b 1024 x) (hz : z = lN ez) (he : 1 ≤ ez) (he2 : ez ≤ 1700) (hr : fp_res x ez v0.toNat), gz_W p l e (gz_rm 0) s m args below meth c D ad cy lx_lay 6 (MQ below (gz_Q D ad cy lx_lay (fun v M1 => v = some (.long (lN v0.toNat)) ∧ M1 = (I, G))) args s 0 0 (gz_A ad lx_lay)) (I, G) 77 [(0, .double v0), (2, .double x), (4, .long z)] [] := by
    intro x z ez hx hz he he2 hr
    obtain ⟨n, hn, hu, hb⟩ := hr
    obtain ⟨w1, w2⟩ := fp_d2l hx hn hu
    refine gz_lload hC dX7_bitsOf_77 rfl ?_
    refine gz_lconst hC (1) dX7_bitsOf_79 (by decide) ?_
    refine gz_lsub hC dX7_bitsOf_80 ?_
    refine gz_bipush hC (52) dX7_bitsOf_81 (by decide) ?_
    refine gz_lshl hC dX7_bitsOf_83 ?_
    refine gz_dload_n hC dX7_bitsOf_84 rfl ?_
    refine gz_ldc2d hC dX7_bitsOf_85 kc_X7_214 ?_
    refine gz_dmul hC dX7_bitsOf_88 w2 ?_
    refine gz_d2l hC dX7_bitsOf_89 ?_
    refine gz_ladd hC dX7_bitsOf_90 ?_
    exact gz_lret hC dX7_bitsOf_91 ⟨by rw [w1, hz, show lN ez - 1 = lN (ez - 1) from lN_sub (b := 1) he, show (52 : Int32) = nI 52 from rfl, wb_shl (ez - 1) (by decide), lN_add, show (2 : Nat) ^ 52 = 4503599627370496 from rfl, hb], rfl⟩
  have lp2 : ∀ (n ez : Nat) (x : UInt64) (z : Int64) (hin : ez ≤ n) (hx : fp_b 1024 x) (hxb : x.toNat < 1024 * 4503599627370496) (hz : z = lN ez) (he : 1 ≤ ez) (he2 : ez ≤ 1023) (hu : fp_u x = FP.Core.unitsOf FP.Core.b64 v0.toNat * 2 ^ (1023 - ez)), gz_W p l e (gz_rm 0) s m args below meth c D ad cy lx_lay 6 (MQ below (gz_Q D ad cy lx_lay (fun v M1 => v = some (.long (lN v0.toNat)) ∧ M1 = (I, G))) args s 0 0 (gz_A ad lx_lay)) (I, G) 49 [(0, .double v0), (2, .double x), (4, .long z)] [] := by
    intro n
    induction n with
    | zero =>
      intro ez x z hin hx hxb hz he he2 hu
      exact absurd he (by omega)
    | succ n ih =>
      intro ez x z hin hx hxb hz he he2 hu
      refine gz_dload_n hC dX7_bitsOf_49 rfl ?_
      refine gz_dconst1 hC dX7_bitsOf_50 ?_
      refine gz_dcmp hC dX7_bitsOf_51 ?_
      refine gz_if_ge hC 77 dX7_bitsOf_52 (by decide) (fun c52 => ?_) (fun c52 => ?_)
      · have q52 : 1023 * 4503599627370496 ≤ x.toNat := (fp_gge hx fp_b_1 (by decide) (by decide)).mp c52
        exact gz_lw [(0, .double v0), (2, .double x), (4, .long z)] ⟨rfl, rfl, rfl, trivial⟩ (fin x z ez hx hz he (by omega) (fp_resB q52 hxb he he2 hu))
      · have q52 : x.toNat < 1023 * 4503599627370496 := by rcases Nat.lt_or_ge x.toNat (1023 * 4503599627370496) with q | q; exact q; exact absurd ((fp_gge hx fp_b_1 (by decide) (by decide)).mpr q) c52
        refine gz_lload hC dX7_bitsOf_55 rfl ?_
        refine gz_lconst hC (1) dX7_bitsOf_57 (by decide) ?_
        refine gz_lcmp hC dX7_bitsOf_58 ?_
        refine gz_if_le hC 77 dX7_bitsOf_59 (by decide) (fun c59 => ?_) (fun c59 => ?_)
        · have e1 : ez = 1 := by
            have q := (lg_cmp_le _ _).mp c59
            rw [hz] at q
            have q2 := (pk_lLE (by omega) (show 1 < 2 ^ 63 by decide)).mp (show lN ez ≤ lN 1 from q)
            omega
          subst e1
          exact gz_lw [(0, .double v0), (2, .double x), (4, .long z)] ⟨rfl, rfl, rfl, trivial⟩ (fin x z 1 hx hz (by decide) (by decide) (fp_resC q52 hu))
        · have e1 : 1 < ez := by
            rcases Nat.lt_or_ge 1 ez with q | q
            · exact q
            · exact absurd ((lg_cmp_le _ _).mpr (by rw [hz]; exact (pk_lLE (by omega) (show 1 < 2 ^ 63 by decide)).mpr q)) c59
          have hm := fp_mul2 hx (by decide) (by decide)
          have hxn : (FP.dmul x 4611686018427387904).toNat < 1024 * 4503599627370496 := by rw [hm.1]; split <;> omega
          have hxk : fp_b 1024 (FP.dmul x 4611686018427387904) := hxn
          refine gz_dload_n hC dX7_bitsOf_62 rfl ?_
          refine gz_ldc2d hC dX7_bitsOf_63 kc_X7_210 ?_
          refine gz_dmul hC dX7_bitsOf_66 (fp_b_n64 hxk (by decide)) ?_
          refine gz_dstore_n hC dX7_bitsOf_67 (by decide) ?_
          refine gz_lload hC dX7_bitsOf_68 rfl ?_
          refine gz_lconst hC (1) dX7_bitsOf_70 (by decide) ?_
          refine gz_lsub hC dX7_bitsOf_71 ?_
          refine gz_lstore hC dX7_bitsOf_72 (by decide) ?_
          refine gz_goto hC 49 dX7_bitsOf_74 (by decide) ?_
          refine gz_lw [(0, .double v0), (2, .double (FP.dmul x 4611686018427387904)), (4, .long (z - 1))] ⟨rfl, rfl, rfl, trivial⟩ ?_
          exact ih (ez - 1) _ _ (by omega) hxk hxn (by rw [hz]; exact lN_sub (b := 1) he) (by omega) (by omega) (by rw [show fp_u (FP.dmul x 4611686018427387904) = 2 * fp_u x from hm.2, hu, show 1023 - (ez - 1) = 1023 - ez + 1 by omega, Nat.pow_succ]; generalize (2 : Nat) ^ (1023 - ez) = y; ac_rfl)
  have big : ∀ (x : UInt64) (z : Int64) (ez : Nat) (hx : fp_b 1024 x) (hz : z = lN ez) (he : 1023 ≤ ez) (he2 : ez ≤ 1700) (h1 : 1023 * 4503599627370496 ≤ x.toNat) (hb : x.toNat + (ez - 1023) * 4503599627370496 = v0.toNat), gz_W p l e (gz_rm 0) s m args below meth c D ad cy lx_lay 6 (MQ below (gz_Q D ad cy lx_lay (fun v M1 => v = some (.long (lN v0.toNat)) ∧ M1 = (I, G))) args s 0 0 (gz_A ad lx_lay)) (I, G) 49 [(0, .double v0), (2, .double x), (4, .long z)] [] := by
    intro x z ez hx hz he he2 h1 hb
    refine gz_dload_n hC dX7_bitsOf_49 rfl ?_
    refine gz_dconst1 hC dX7_bitsOf_50 ?_
    refine gz_dcmp hC dX7_bitsOf_51 ?_
    refine gz_if_ge hC 77 dX7_bitsOf_52 (by decide) (fun c52 => ?_) (fun c52 => ?_)
    · exact gz_lw [(0, .double v0), (2, .double x), (4, .long z)] ⟨rfl, rfl, rfl, trivial⟩ (fin x z ez hx hz (by omega) he2 (fp_resA h1 hx he hb))
    · exact absurd ((fp_gge hx fp_b_1 (by decide) (by decide)).mpr h1) c52
  have lp1 : ∀ (n ez : Nat) (x : UInt64) (z : Int64) (hin : x.toNat < (1024 + n) * 4503599627370496) (hx : fp_b 1700 x) (hz : z = lN ez) (he : 1023 ≤ ez) (he2 : ez ≤ 1700) (hb : x.toNat + (ez - 1023) * 4503599627370496 = v0.toNat) (hor : ez = 1023 ∨ 1023 * 4503599627370496 ≤ x.toNat), gz_W p l e (gz_rm 0) s m args below meth c D ad cy lx_lay 6 (MQ below (gz_Q D ad cy lx_lay (fun v M1 => v = some (.long (lN v0.toNat)) ∧ M1 = (I, G))) args s 0 0 (gz_A ad lx_lay)) (I, G) 17 [(0, .double v0), (2, .double x), (4, .long z)] [] := by
    intro n
    induction n with
    | zero =>
      intro ez x z hin hx hz he he2 hb hor
      refine gz_dload_n hC dX7_bitsOf_17 rfl ?_
      refine gz_ldc2d hC dX7_bitsOf_18 kc_X7_210 ?_
      refine gz_dcmp hC dX7_bitsOf_21 ?_
      refine gz_if_lt hC 49 dX7_bitsOf_22 (by decide) (fun c22 => ?_) (fun c22 => ?_)
      · have q22 : x.toNat < 1024 * 4503599627370496 := (fp_llt hx fp_two (by decide) (by decide)).mp c22
        rcases hor with e1 | e1
        · by_cases e2 : 1023 * 4503599627370496 ≤ x.toNat
          · exact gz_lw [(0, .double v0), (2, .double x), (4, .long z)] ⟨rfl, rfl, rfl, trivial⟩ (big x z ez q22 hz he he2 e2 hb)
          · exact gz_lw [(0, .double v0), (2, .double x), (4, .long z)] ⟨rfl, rfl, rfl, trivial⟩ (lp2 ez ez x z (Nat.le_refl _) q22 q22 hz (by omega) (by omega) (by (have e3 : x.toNat = v0.toNat := (by omega)); unfold fp_u; rw [e3, e1, Nat.sub_self, Nat.pow_zero, Nat.mul_one]))
        · exact gz_lw [(0, .double v0), (2, .double x), (4, .long z)] ⟨rfl, rfl, rfl, trivial⟩ (big x z ez q22 hz he he2 e1 hb)
      · exact absurd ((fp_llt hx fp_two (by decide) (by decide)).mpr (by show x.toNat < 1024 * 4503599627370496; omega)) c22
    | succ n ih =>
      intro ez x z hin hx hz he he2 hb hor
      refine gz_dload_n hC dX7_bitsOf_17 rfl ?_
      refine gz_ldc2d hC dX7_bitsOf_18 kc_X7_210 ?_
      refine gz_dcmp hC dX7_bitsOf_21 ?_
      refine gz_if_lt hC 49 dX7_bitsOf_22 (by decide) (fun c22 => ?_) (fun c22 => ?_)
      · have q22 : x.toNat < 1024 * 4503599627370496 := (fp_llt hx fp_two (by decide) (by decide)).mp c22
        rcases hor with e1 | e1
        · by_cases e2 : 1023 * 4503599627370496 ≤ x.toNat
          · exact gz_lw [(0, .double v0), (2, .double x), (4, .long z)] ⟨rfl, rfl, rfl, trivial⟩ (big x z ez q22 hz he he2 e2 hb)
          · exact gz_lw [(0, .double v0), (2, .double x), (4, .long z)] ⟨rfl, rfl, rfl, trivial⟩ (lp2 ez ez x z (Nat.le_refl _) q22 q22 hz (by omega) (by omega) (by (have e3 : x.toNat = v0.toNat := (by omega)); unfold fp_u; rw [e3, e1, Nat.sub_self, Nat.pow_zero, Nat.mul_one]))
        · exact gz_lw [(0, .double v0), (2, .double x), (4, .long z)] ⟨rfl, rfl, rfl, trivial⟩ (big x z ez q22 hz he he2 e1 hb)
      · have q22 : 1024 * 4503599627370496 ≤ x.toNat := by
          rcases Nat.lt_or_ge x.toNat (1024 * 4503599627370496) with q | q
          · exact absurd ((fp_llt hx fp_two (by decide) (by decide)).mpr q) c22
          · exact q
        have hd2 := fp_div2 hx (by decide) (by decide) (by omega)
        refine gz_lload hC dX7_bitsOf_25 rfl ?_
        refine gz_ldc2l hC dX7_bitsOf_27 kc_X7_212 ?_
        refine gz_lcmp hC dX7_bitsOf_30 ?_
        refine gz_if_ge hC 49 dX7_bitsOf_31 (by decide) (fun c31 => ?_) (fun c31 => ?_)
        · exact absurd ((lg_cmp_ge _ _).mp c31) (by rw [hz]; intro q; have q2 := (pk_lLE (show 2046 < 2 ^ 63 by decide) (show ez < 2 ^ 63 by omega)).mp (show lN 2046 ≤ lN ez from q); omega)
        · refine gz_dload_n hC dX7_bitsOf_34 rfl ?_
          refine gz_ldc2d hC dX7_bitsOf_35 kc_X7_210 ?_
          refine gz_ddiv hC dX7_bitsOf_38 (fp_b_n64 (fp_b_div hx fp_two (by decide) (by decide) (by decide) (by decide)) (by decide)) ?_
          refine gz_dstore_n hC dX7_bitsOf_39 (by decide) ?_
          refine gz_lload hC dX7_bitsOf_40 rfl ?_
          refine gz_lconst hC (1) dX7_bitsOf_42 (by decide) ?_
          refine gz_ladd hC dX7_bitsOf_43 ?_
          refine gz_lstore hC dX7_bitsOf_44 (by decide) ?_
          refine gz_goto hC 17 dX7_bitsOf_46 (by decide) ?_
          refine gz_lw [(0, .double v0), (2, .double (FP.ddiv x 4611686018427387904)), (4, .long (z + 1))] ⟨rfl, rfl, rfl, trivial⟩ ?_
          have hx9 : x.toNat < 1700 * 4503599627370496 := hx
          have hv9 : v0.toNat < 1700 * 4503599627370496 := hv
          exact ih (ez + 1) _ _ (by rw [hd2]; omega) (by show (FP.ddiv x 4611686018427387904).toNat < 1700 * 4503599627370496; rw [hd2]; omega) (by rw [hz]; exact lN_1 ez) (by omega) (by omega) (by rw [hd2]; omega) (Or.inr (by rw [hd2]; omega))
  refine gz_dload_n hC dX7_bitsOf_0 rfl ?_
  refine gz_dconst0 hC dX7_bitsOf_1 ?_
  refine gz_dcmp hC dX7_bitsOf_2 ?_
  refine gz_if_le hC 10 dX7_bitsOf_3 (by decide) (fun c3 => ?_) (fun c3 => ?_)
  · have q3 : v0 = 0 := by
      have q := fp_leF c3
      have q2 := fp_pos_iff hv (by decide)
      rw [show fp_pos v0 = fp_gt v0 0 from rfl, q] at q2
      by_cases e : v0 = 0
      · exact e
      · rw [decide_eq_true e] at q2; cases q2
    refine gz_dconst0 hC dX7_bitsOf_10 ?_
    refine gz_dstore_n hC dX7_bitsOf_11 (by decide) ?_
    refine gz_ldc2l hC dX7_bitsOf_12 kc_X7_208 ?_
    refine gz_lstore hC dX7_bitsOf_15 (by decide) ?_
    first
      | (refine gz_lw [(0, .double v0), (2, .double 0), (4, .long 1023)] ⟨rfl, rfl, rfl, trivial⟩ ?_
         have q4 : v0.toNat = 0 := by rw [q3]; rfl
         have q5 : (0 : UInt64).toNat = 0 := rfl
         exact lp1 676 1023 0 1023 (by have : v0.toNat < 1700 * 4503599627370496 := hv; rw [q5]; decide) (by exact fp_b_mono fp_b_0 (by decide)) rfl (by decide) (by decide) (by rw [q5, q4]) (Or.inl rfl))
      | (refine gz_lw [(0, .double v0), (2, .double v0), (4, .long 1023)] ⟨rfl, rfl, rfl, trivial⟩ ?_
         exact lp1 676 1023 v0 1023 (by have : v0.toNat < 1700 * 4503599627370496 := hv; omega) (by exact hv) rfl (by decide) (by decide) (by omega) (Or.inl rfl))
  · refine gz_dload_n hC dX7_bitsOf_6 rfl ?_
    refine gz_goto hC 11 dX7_bitsOf_7 (by decide) ?_
    refine gz_dstore_n hC dX7_bitsOf_11 (by decide) ?_
    refine gz_ldc2l hC dX7_bitsOf_12 kc_X7_208 ?_
    refine gz_lstore hC dX7_bitsOf_15 (by decide) ?_
    first
      | (refine gz_lw [(0, .double v0), (2, .double 0), (4, .long 1023)] ⟨rfl, rfl, rfl, trivial⟩ ?_
         have q4 : v0.toNat = 0 := by rw [q3]; rfl
         have q5 : (0 : UInt64).toNat = 0 := rfl
         exact lp1 676 1023 0 1023 (by have : v0.toNat < 1700 * 4503599627370496 := hv; rw [q5]; decide) (by exact fp_b_mono fp_b_0 (by decide)) rfl (by decide) (by decide) (by rw [q5, q4]) (Or.inl rfl))
      | (refine gz_lw [(0, .double v0), (2, .double v0), (4, .long 1023)] ⟨rfl, rfl, rfl, trivial⟩ ?_
         exact lp1 676 1023 v0 1023 (by have : v0.toNat < 1700 * 4503599627370496 := hv; omega) (by exact hv) rfl (by decide) (by decide) (by omega) (Or.inl rfl))
  -- places not laid: [18, 21, 22, 25, 27, 30, 31, 34, 35, 38, 39, 40, 42, 43, 44, 46, 49, 50, 51, 52, 55, 57, 58, 59, 62, 63, 66, 67, 68, 70, 71, 72, 74, 77, 79, 80, 81, 83, 84, 85, 88, 89, 90, 91]
end CT
