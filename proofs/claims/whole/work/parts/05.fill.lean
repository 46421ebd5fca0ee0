/-! numbers, fills, and the small methods of a cup -/
theorem gz_n0 : (0 : Int32) = nI 0 := rfl
theorem gz_n1 : (1 : Int32) = nI 1 := rfl
theorem gz_n2 : (2 : Int32) = nI 2 := rfl
theorem gz_n3 : (3 : Int32) = nI 3 := rfl
theorem gz_n4 : (4 : Int32) = nI 4 := rfl
theorem gz_n6 : (6 : Int32) = nI 6 := rfl
theorem gz_n8 : (8 : Int32) = nI 8 := rfl
theorem gz_n9 : (9 : Int32) = nI 9 := rfl
theorem gz_n10 : (10 : Int32) = nI 10 := rfl
theorem gz_n16 : (16 : Int32) = nI 16 := rfl
theorem gz_n100 : (100 : Int32) = nI 100 := rfl
/-- a stretch of a row filled with one value -/
def gz_fi {α : Type} (f : Nat → Nat → α) (k n : Nat) (v : α) : Nat → Nat → α := fun o => if o = k then (fun j => if j < n then v else f o j) else f o
theorem gz_fi0 {α : Type} (f : Nat → Nat → α) (k : Nat) (v : α) : gz_fi f k 0 v = f := by
  funext o j
  unfold gz_fi
  by_cases h : o = k
  · rw [if_pos h]; exact if_neg (Nat.not_lt_zero j)
  · rw [if_neg h]
theorem gz_fi1 {α : Type} (f : Nat → Nat → α) (k i : Nat) (v : α) : gz_up (gz_fi f k i v) k i v = gz_fi f k (i + 1) v := by
  funext o j
  unfold gz_up gz_fi
  by_cases h : o = k
  · subst h
    simp only [if_true]
    by_cases h2 : j = i
    · subst h2
      simp
    · simp only [h2, if_false]
      by_cases h3 : j < i
      · simp [h3, Nat.lt_succ_of_lt h3]
      · have h4 : ¬ j < i + 1 := by omega
        simp [h3, h4]
  · simp only [h, if_false]
theorem gz_fi_ne {α : Type} {f : Nat → Nat → α} {k n o : Nat} {v : α} (h : o ≠ k) : gz_fi f k n v o = f o := if_neg h
theorem gz_fi_in {α : Type} {f : Nat → Nat → α} {k n j : Nat} {v : α} (h : j < n) : gz_fi f k n v k j = v := by unfold gz_fi; rw [if_pos rfl]; exact if_pos h
section CT
variable {l : Launch} {D : va_G} {ad : Nat → Nat} {cy : Nat → ClassId}
set_option maxHeartbeats 4000000 in
set_option maxRecDepth 100000 in
theorem ct_J7_fill_53178 (hJ : gz_inj ad lx_lay) (I : Nat → Nat → Int32) (G : Nat → Nat → UInt64) (k n0 : Nat) (hk : lx_lay[k]? = some (.inr (n0, 0))) (hn : n0 < 2147483648) (x : Int32) : gz_Ct l D ad cy lx_lay yJ7_fill_53178 cJ7_fill_53178 4 none 0 [.ref (ad k), .int x] (I, G) (fun v M1 => v = none ∧ M1 = (gz_fi I k n0 x, G)) := by
  refine gz_met (by decide +kernel) hJ (Nat.le_of_ble_eq_true rfl) ?_
  intro p e s m args below meth c hC
  refine gz_iconst hC (0) dJ7_fill_53178_0 (by decide) ?_
  refine gz_istore_n hC dJ7_fill_53178_1 (by decide) ?_
  refine gz_aload_n hC dJ7_fill_53178_2 rfl ?_
  refine gz_alenI hC dJ7_fill_53178_3 hk rfl ?_
  refine gz_istore_n hC dJ7_fill_53178_4 (by decide) ?_
  have lp : ∀ (n i : Nat) (y z : Int32) (hi : i + n = n0) (hy : y = nI i) (hz : z = nI n0), gz_W p l e (gz_rm 0) s m args below meth c D ad cy lx_lay 4 (MQ below (gz_Q D ad cy lx_lay (fun v M1 => v = none ∧ M1 = (gz_fi I k n0 x, G))) args s 0 0 (gz_A ad lx_lay)) (gz_fi I k i x, G) 5 [(0, .ref (ad k)), (1, .int x), (2, .int y), (3, .int z)] [] := by
    intro n
    induction n with
    | zero =>
      intro i y z hi hy hz
      refine gz_iload_n hC dJ7_fill_53178_5 rfl ?_
      refine gz_iload_n hC dJ7_fill_53178_6 rfl ?_
      refine gz_icmp_ge hC 20 dJ7_fill_53178_7 (by decide) (fun c7 => ?_) (fun c7 => ?_)
      · exact gz_vret hC dJ7_fill_53178_20 ⟨rfl, by rw [show n0 = i by omega]⟩
      · exact absurd (by rw [hy, hz]; exact nI_le (by omega) (by omega)) c7
    | succ n ih =>
      intro i y z hi hy hz
      refine gz_iload_n hC dJ7_fill_53178_5 rfl ?_
      refine gz_iload_n hC dJ7_fill_53178_6 rfl ?_
      refine gz_icmp_ge hC 20 dJ7_fill_53178_7 (by decide) (fun c7 => ?_) (fun c7 => ?_)
      · exact absurd c7 (by rw [hy, hz]; exact nI_ge (by omega) (by omega))
      · refine gz_aload_n hC dJ7_fill_53178_10 rfl ?_
        refine gz_iload_n hC dJ7_fill_53178_11 rfl ?_
        refine gz_iload_n hC dJ7_fill_53178_12 rfl ?_
        refine gz_iast hC dJ7_fill_53178_13 hk (by rw [hy]; exact vp_in_nI (by omega) (by omega)) ?_
        refine gz_iinc hC (1) dJ7_fill_53178_14 rfl (by decide) (by decide) ?_
        refine gz_goto hC 5 dJ7_fill_53178_17 (by decide) ?_
        refine gz_lw [(0, .ref (ad k)), (1, .int x), (2, .int (y + 1)), (3, .int z)] ⟨rfl, rfl, rfl, rfl, trivial⟩ ?_
        rw [hy, nI_clamp (by omega), gz_fi1]
        exact ih (i + 1) (nI i + 1) z (by omega) (nI_1 i) hz
  refine gz_lw [(0, .ref (ad k)), (1, .int x), (2, .int 0), (3, .int (nI n0))] ⟨rfl, rfl, rfl, rfl, trivial⟩ ?_
  have h0 := lp n0 0 0 (nI n0) (by omega) rfl rfl
  rw [gz_fi0] at h0
  exact h0
  -- places not laid: [6, 7, 10, 11, 12, 13, 14, 17, 20]
set_option maxHeartbeats 4000000 in
set_option maxRecDepth 100000 in
theorem ct_J7_fill_7f8df (hJ : gz_inj ad lx_lay) (I : Nat → Nat → Int32) (G : Nat → Nat → UInt64) (k n0 : Nat) (hk : lx_lay[k]? = some (.inr (n0, 1))) (hn : n0 < 2147483648) (x : UInt64) : gz_Ct l D ad cy lx_lay yJ7_fill_7f8df cJ7_fill_7f8df 5 none 0 [.ref (ad k), .double x] (I, G) (fun v M1 => v = none ∧ M1 = (I, gz_fi G k n0 x)) := by
  refine gz_met (by decide +kernel) hJ (Nat.le_of_ble_eq_true rfl) ?_
  intro p e s m args below meth c hC
  refine gz_iconst hC (0) dJ7_fill_7f8df_0 (by decide) ?_
  refine gz_istore_n hC dJ7_fill_7f8df_1 (by decide) ?_
  refine gz_aload_n hC dJ7_fill_7f8df_2 rfl ?_
  refine gz_alenD hC dJ7_fill_7f8df_3 hk ?_
  refine gz_istore hC dJ7_fill_7f8df_4 (by decide) ?_
  have lp : ∀ (n i : Nat) (y z : Int32) (hi : i + n = n0) (hy : y = nI i) (hz : z = nI n0), gz_W p l e (gz_rm 0) s m args below meth c D ad cy lx_lay 5 (MQ below (gz_Q D ad cy lx_lay (fun v M1 => v = none ∧ M1 = (I, gz_fi G k n0 x))) args s 0 0 (gz_A ad lx_lay)) (I, gz_fi G k i x) 6 [(0, .ref (ad k)), (1, .double x), (3, .int y), (4, .int z)] [] := by
    intro n
    induction n with
    | zero =>
      intro i y z hi hy hz
      refine gz_iload_n hC dJ7_fill_7f8df_6 rfl ?_
      refine gz_iload hC dJ7_fill_7f8df_7 rfl ?_
      refine gz_icmp_ge hC 22 dJ7_fill_7f8df_9 (by decide) (fun c9 => ?_) (fun c9 => ?_)
      · exact gz_vret hC dJ7_fill_7f8df_22 ⟨rfl, by rw [show n0 = i by omega]⟩
      · exact absurd (by rw [hy, hz]; exact nI_le (by omega) (by omega)) c9
    | succ n ih =>
      intro i y z hi hy hz
      refine gz_iload_n hC dJ7_fill_7f8df_6 rfl ?_
      refine gz_iload hC dJ7_fill_7f8df_7 rfl ?_
      refine gz_icmp_ge hC 22 dJ7_fill_7f8df_9 (by decide) (fun c9 => ?_) (fun c9 => ?_)
      · exact absurd c9 (by rw [hy, hz]; exact nI_ge (by omega) (by omega))
      · refine gz_aload_n hC dJ7_fill_7f8df_12 rfl ?_
        refine gz_iload_n hC dJ7_fill_7f8df_13 rfl ?_
        refine gz_dload_n hC dJ7_fill_7f8df_14 rfl ?_
        refine gz_dast hC dJ7_fill_7f8df_15 hk (by rw [hy]; exact vp_in_nI (by omega) (by omega)) ?_
        refine gz_iinc hC (1) dJ7_fill_7f8df_16 rfl (by decide) (by decide) ?_
        refine gz_goto hC 6 dJ7_fill_7f8df_19 (by decide) ?_
        refine gz_lw [(0, .ref (ad k)), (1, .double x), (3, .int (y + 1)), (4, .int z)] ⟨rfl, rfl, rfl, rfl, trivial⟩ ?_
        rw [hy, nI_clamp (by omega), gz_fi1]
        exact ih (i + 1) (nI i + 1) z (by omega) (nI_1 i) hz
  refine gz_lw [(0, .ref (ad k)), (1, .double x), (3, .int 0), (4, .int (nI n0))] ⟨rfl, rfl, rfl, rfl, trivial⟩ ?_
  have h0 := lp n0 0 0 (nI n0) (by omega) rfl rfl
  rw [gz_fi0] at h0
  exact h0
  -- places not laid: [7, 9, 12, 13, 14, 15, 16, 19, 22]
end CT
