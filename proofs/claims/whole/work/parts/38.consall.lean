/-! constructors: plans, the class, the model -/
def lp_lay : List gz_C := [.inr (3888, 0)]
def gc_one : Nat → Int32 := fun j => if j < 3888 then 1 else 0
def gc_I0 : Nat → Nat → Int32 := fun k => if k = 12 then gc_one else if k = 23 then (fun j => if j = 6 then -1 else if j = 7 then -1 else if j = 9 then -1 else 0) else fun _ => 0
def gc_J0 : Nat → Nat → Int32 := fun k => if k = 0 then (fun j => if j = 0 then 1 else if j = 1 then 1 else if j = 2 then 2 else 0) else fun _ => 0
section CT
variable {l : Launch} {D : va_G} {ad : Nat → Nat} {cy : Nat → ClassId}
theorem gc_inj {p : Program} {e : Env} {R : Room} {s : State} {m : MethodId} {args : Array Value} {below : List Frame} {meth : Method} {c : Code} {A : Nat → Prop} {nL : Nat} {Q : State → Prop} {ws : va_W} {kc ks pc : Nat} {lv : List (Nat × Value)} {st : List Value} {lay : List gz_C} (M : gz_M) (isC : List Nat) (hCi : isC.map (fun i => ws[i]?) = (gz_ws ad cy lay M).map some) (hnc : va_nd isC = true) (kk : gz_inj ad lay → gc_W p l e R s m args below meth c D A nL Q ws kc ks pc lv st) : gc_W p l e R s m args below meth c D A nL Q ws kc ks pc lv st := fun H locs ls hP hD hS hL => kk (fun i j hi hj he => (hD.sub isC hnc hCi).1 i j _ _ (gz_ws_at (List.getElem?_eq_getElem hi)) (gz_ws_at (List.getElem?_eq_getElem hj)) he) H locs ls hP hD hS hL
set_option maxHeartbeats 4000000 in
set_option maxRecDepth 100000 in
theorem ct_fill_p (hJ : gz_inj ad lp_lay) (I : Nat → Nat → Int32) (G : Nat → Nat → UInt64) (k n0 : Nat) (hk : lp_lay[k]? = some (.inr (n0, 0))) (hn : n0 < 2147483648) (x : Int32) : gz_Ct l D ad cy lp_lay yJ7_fill_53178 cJ7_fill_53178 4 none 0 [.ref (ad k), .int x] (I, G) (fun v M1 => v = none ∧ M1 = (gz_fi I k n0 x, G)) := by
  refine gz_met (by decide +kernel) hJ (Nat.le_of_ble_eq_true rfl) ?_
  intro p e s m args below meth c hC
  refine gz_iconst hC (0) dJ7_fill_53178_0 (by decide) ?_
  refine gz_istore_n hC dJ7_fill_53178_1 (by decide) ?_
  refine gz_aload_n hC dJ7_fill_53178_2 rfl ?_
  refine gz_alenI hC dJ7_fill_53178_3 hk rfl ?_
  refine gz_istore_n hC dJ7_fill_53178_4 (by decide) ?_
  have lp : ∀ (n i : Nat) (y z : Int32) (hi : i + n = n0) (hy : y = nI i) (hz : z = nI n0), gz_W p l e (gz_rm 0) s m args below meth c D ad cy lp_lay 4 (MQ below (gz_Q D ad cy lp_lay (fun v M1 => v = none ∧ M1 = (gz_fi I k n0 x, G))) args s 0 0 (gz_A ad lp_lay)) (gz_fi I k i x, G) 5 [(0, .ref (ad k)), (1, .int x), (2, .int y), (3, .int z)] [] := by
    intro n
    induction n with
    | zero =>
      intro i y z hi hy hz
      refine gz_iload_n hC dJ7_fill_53178_5 rfl ?_
      refine gz_iload_n hC dJ7_fill_53178_6 rfl ?_
      refine gz_icmp_ge hC 20 dJ7_fill_53178_7 (by decide) (fun c7 => ?_) (fun c7 => ?_)
      · exact gz_vret hC dJ7_fill_53178_20 ⟨rfl, by rw [show n0 = i by omega]⟩
      · exact absurd (by rw [hy, hz]; exact nI_le (by omega) (by omega)) c7
    | succ n ih =>
      intro i y z hi hy hz
      refine gz_iload_n hC dJ7_fill_53178_5 rfl ?_
      refine gz_iload_n hC dJ7_fill_53178_6 rfl ?_
      refine gz_icmp_ge hC 20 dJ7_fill_53178_7 (by decide) (fun c7 => ?_) (fun c7 => ?_)
      · exact absurd c7 (by rw [hy, hz]; exact nI_ge (by omega) (by omega))
      · refine gz_aload_n hC dJ7_fill_53178_10 rfl ?_
        refine gz_iload_n hC dJ7_fill_53178_11 rfl ?_
        refine gz_iload_n hC dJ7_fill_53178_12 rfl ?_
        refine gz_iast hC dJ7_fill_53178_13 hk (by rw [hy]; exact vp_in_nI (by omega) (by omega)) ?_
        refine gz_iinc hC (1) dJ7_fill_53178_14 rfl (by decide) (by decide) ?_
        refine gz_goto hC 5 dJ7_fill_53178_17 (by decide) ?_
        refine gz_lw [(0, .ref (ad k)), (1, .int x), (2, .int (y + 1)), (3, .int z)] ⟨rfl, rfl, rfl, rfl, trivial⟩ ?_
        rw [hy, nI_clamp (by omega), gz_fi1]
        exact ih (i + 1) (nI i + 1) z (by omega) (nI_1 i) hz
  refine gz_lw [(0, .ref (ad k)), (1, .int x), (2, .int 0), (3, .int (nI n0))] ⟨rfl, rfl, rfl, rfl, trivial⟩ ?_
  have h0 := lp n0 0 0 (nI n0) (by omega) rfl rfl
  rw [gz_fi0] at h0
  exact h0
  -- places not laid: [6, 7, 10, 11, 12, 13, 14, 17, 20]
set_option maxHeartbeats 4000000 in
set_option maxRecDepth 100000 in
theorem cc_X4 (h0 : Nat) : gc_Ct l D cy yX4_init cX4_init 1 1 1 3888 [.ref h0] [(h0, .inr (4, [.null]))] (fun w1 => ∃ q8 : Nat, w1 = [(h0, .inr (4, [.ref q8])), (q8, .inl (cy 0, (3888, .inl gc_one)))]) := by
  refine gc_met (by decide +kernel) rfl (Nat.le_of_ble_eq_true rfl) ?_
  intro p e s m args below meth c hC hin
  refine gc_aload_n hC dX4_init_0 rfl ?_
  refine gc_obj hC dX4_init_1 ol_X4_3 oi_I oi_C (Nat.le_of_ble_eq_true rfl) (Nat.le_of_ble_eq_true rfl) rfl ?_
  refine gc_aload_n hC dX4_init_4 rfl ?_
  refine gc_sipush hC (3888) dX4_init_5 (by decide) ?_
  refine gc_newa (j := 0) hC (3888, .inl (fun _ => 0)) 3888 dX4_init_8 rfl rfl ra_I ac_I (fun _ => rfl) (by decide) (by decide) (by decide) (Nat.le_of_ble_eq_true rfl) (Nat.le_of_ble_eq_true rfl) (fun q8 => ?_)
  refine gc_putF (j := 0) hC 0 dX4_init_10 cf_X4 fl_X4_9 rfl (by decide) rfl hin rfl rfl rfl (Nat.le_of_ble_eq_true rfl) ?_
  refine gc_aload_n hC dX4_init_13 rfl ?_
  refine gc_getR (j := 0) hC 0 dX4_init_14 cf_X4 fl_X4_9 rfl rfl (by decide) ?_
  refine gc_iconst hC (1) dX4_init_17 (by decide) ?_
  refine gc_callGS (ad := fun _ => q8) (cy := cy) (lay := lp_lay) (M := (fun _ _ => 0, fun _ _ => 0)) (wr := [(h0, .inr (4, [.ref q8]))]) hC [.ref q8, .int 1] [1] [0] dX4_init_18 ml_X4_15 (ct_fill_p (fun i j hi hj _ => by have h1 : i < 1 := hi; have h2 : j < 1 := hj; omega) (fun _ _ => 0) (fun _ _ => 0) 0 3888 rfl (by decide) 1) (fun i j hi hj _ => by have h1 : i < 1 := hi; have h2 : j < 1 := hj; omega) rfl rfl (by decide) (by decide) (by decide) (Nat.le_of_ble_eq_true rfl) (Nat.le_of_ble_eq_true rfl) (Nat.le_of_ble_eq_true rfl) (fun v M1 h1 => ?_)
  obtain ⟨rfl, rfl⟩ := h1
  exact gc_vret hC dX4_init_21 ⟨_, rfl⟩
set_option maxHeartbeats 4000000 in
set_option maxRecDepth 100000 in
theorem cc_X7 (h0 : Nat) : gc_Ct l D cy yX7_init cX7_init 1 7 24 5138 [.ref h0] [(h0, .inr (7, [.null, .null, .null, .null, .null]))] (fun w1 => ∃ (ad : Nat → Nat) (J : Nat → Nat → Int32), gz_inj ad lx_lay ∧ ad 0 = h0 ∧ w1 = gz_ws ad cy lx_lay (J, fun _ _ => 0) ∧ xi_tab 1 1 2 false J ∧ ∀ o, o = 0 ∨ 10 < o → J o = gc_I0 o) := by
  refine gc_met (by decide +kernel) rfl (Nat.le_of_ble_eq_true rfl) ?_
  intro p e s m args below meth c hC hin
  refine gc_aload_n hC dX7_init_0 rfl ?_
  refine gc_obj hC dX7_init_1 ol_X7_3 oi_I oi_C (Nat.le_of_ble_eq_true rfl) (Nat.le_of_ble_eq_true rfl) rfl ?_
  refine gc_aload_n hC dX7_init_4 rfl ?_
  refine gc_new hC [.null, .null, .null, .int 0, .int 0, .int 0] dX7_init_5 cf_X6 cl_X7_9 is_X6 wn_X6 (by decide +kernel) (Nat.le_of_ble_eq_true rfl) (Nat.le_of_ble_eq_true rfl) (fun q5 => ?_)
  refine gc_dup hC dX7_init_8 rfl ?_
  refine gc_callIN (wr := [(h0, .inr (7, [.null, .null, .null, .null, .null]))]) hC [] [1] [0] dX7_init_9 mi_X7_11 (cc_X6 q5) rfl rfl (by decide) (by decide) (by decide) (by decide) (Nat.le_of_ble_eq_true rfl) (Nat.le_of_ble_eq_true rfl) (Nat.le_of_ble_eq_true rfl) (fun w9 hw9 => ?_)
  obtain ⟨p9q5, p9p9q7, p9p9q14, p9p9q21, p9q16, p9p20q7, p9p20q14, p9p20q21, p9q30, rfl⟩ := hw9
  refine gc_putF (j := 0) hC 0 dX7_init_12 cf_X7 fl_X7_12 rfl (by decide) rfl hin rfl rfl rfl (Nat.le_of_ble_eq_true rfl) ?_
  refine gc_aload_n hC dX7_init_15 rfl ?_
  refine gc_new hC [.null] dX7_init_16 cf_X4 cl_X7_16 is_X4 wn_X4 (by decide +kernel) (Nat.le_of_ble_eq_true rfl) (Nat.le_of_ble_eq_true rfl) (fun q16 => ?_)
  refine gc_dup hC dX7_init_19 rfl ?_
  refine gc_callI (wr := [(h0, .inr (7, [.ref q5, .null, .null, .null, .null])), (q5, .inr (6, [.ref p9q5, .ref p9q16, .ref p9q30, .int 0, .int 0, .int 0])), (p9q5, .inr (1, [.ref p9p9q7, .ref p9p9q14, .ref p9p9q21, .int 0, .int 0, .int 0])), (p9p9q7, .inl (cy 0, (16, .inl (fun _ => 0)))), (p9p9q14, .inl (cy 0, (4, .inl (fun _ => 0)))), (p9p9q21, .inl (cy 0, (3, .inl (fun _ => 0)))), (p9q16, .inr (1, [.ref p9p20q7, .ref p9p20q14, .ref p9p20q21, .int 0, .int 0, .int 0])), (p9p20q7, .inl (cy 0, (16, .inl (fun _ => 0)))), (p9p20q14, .inl (cy 0, (4, .inl (fun _ => 0)))), (p9p20q21, .inl (cy 0, (3, .inl (fun _ => 0)))), (p9q30, .inl (cy 0, (128, .inl (fun _ => 0))))]) hC [] [11] [0, 1, 2, 3, 4, 5, 6, 7, 8, 9, 10] dX7_init_20 mi_X7_18 (cc_X4 q16) rfl rfl (by decide) (by decide) (by decide) (by decide) (Nat.le_of_ble_eq_true rfl) (Nat.le_of_ble_eq_true rfl) (Nat.le_of_ble_eq_true rfl) (fun w20 hw20 => ?_)
  obtain ⟨p20q8, rfl⟩ := hw20
  refine gc_putF (j := 1) hC 0 dX7_init_23 cf_X7 fl_X7_19 rfl (by decide) rfl hin rfl rfl rfl (Nat.le_of_ble_eq_true rfl) ?_
  refine gc_aload_n hC dX7_init_26 rfl ?_
  refine gc_new hC [.null, .null, .null, .null] dX7_init_27 cf_X3 cl_X7_23 is_X3 wn_X3 (by decide +kernel) (Nat.le_of_ble_eq_true rfl) (Nat.le_of_ble_eq_true rfl) (fun q27 => ?_)
  refine gc_dup hC dX7_init_30 rfl ?_
  refine gc_aload_n hC dX7_init_31 rfl ?_
  refine gc_getR (j := 0) hC 0 dX7_init_32 cf_X7 fl_X7_12 rfl rfl (by decide) ?_
  refine gc_callI (wr := [(h0, .inr (7, [.ref q5, .ref q16, .null, .null, .null])), (q5, .inr (6, [.ref p9q5, .ref p9q16, .ref p9q30, .int 0, .int 0, .int 0])), (p9q5, .inr (1, [.ref p9p9q7, .ref p9p9q14, .ref p9p9q21, .int 0, .int 0, .int 0])), (p9p9q7, .inl (cy 0, (16, .inl (fun _ => 0)))), (p9p9q14, .inl (cy 0, (4, .inl (fun _ => 0)))), (p9p9q21, .inl (cy 0, (3, .inl (fun _ => 0)))), (p9q16, .inr (1, [.ref p9p20q7, .ref p9p20q14, .ref p9p20q21, .int 0, .int 0, .int 0])), (p9p20q7, .inl (cy 0, (16, .inl (fun _ => 0)))), (p9p20q14, .inl (cy 0, (4, .inl (fun _ => 0)))), (p9p20q21, .inl (cy 0, (3, .inl (fun _ => 0)))), (p9q30, .inl (cy 0, (128, .inl (fun _ => 0)))), (q16, .inr (4, [.ref p20q8])), (p20q8, .inl (cy 0, (3888, .inl gc_one)))]) hC [.ref q5] [13] [0, 1, 2, 3, 4, 5, 6, 7, 8, 9, 10, 11, 12] dX7_init_35 mi_X7_25 (cc_X3 q27 q5) rfl rfl (by decide) (by decide) (by decide) (by decide) (Nat.le_of_ble_eq_true rfl) (Nat.le_of_ble_eq_true rfl) (Nat.le_of_ble_eq_true rfl) (fun w35 hw35 => ?_)
  obtain ⟨p35q5, p35p9q8, p35q16, p35p20q8, p35q29, rfl⟩ := hw35
  refine gc_putF (j := 2) hC 0 dX7_init_38 cf_X7 fl_X7_28 rfl (by decide) rfl hin rfl rfl rfl (Nat.le_of_ble_eq_true rfl) ?_
  refine gc_aload_n hC dX7_init_41 rfl ?_
  refine gc_new hC [.null, .null, .null, .int 0, .int 0, .int 0] dX7_init_42 cf_X0 cl_X7_32 is_X0 wn_X0 (by decide +kernel) (Nat.le_of_ble_eq_true rfl) (Nat.le_of_ble_eq_true rfl) (fun q42 => ?_)
  refine gc_dup hC dX7_init_45 rfl ?_
  refine gc_aload_n hC dX7_init_46 rfl ?_
  refine gc_getR (j := 0) hC 0 dX7_init_47 cf_X7 fl_X7_12 rfl rfl (by decide) ?_
  refine gc_callI (wr := [(h0, .inr (7, [.ref q5, .ref q16, .ref q27, .null, .null])), (q5, .inr (6, [.ref p9q5, .ref p9q16, .ref p9q30, .int 0, .int 0, .int 0])), (p9q5, .inr (1, [.ref p9p9q7, .ref p9p9q14, .ref p9p9q21, .int 0, .int 0, .int 0])), (p9p9q7, .inl (cy 0, (16, .inl (fun _ => 0)))), (p9p9q14, .inl (cy 0, (4, .inl (fun _ => 0)))), (p9p9q21, .inl (cy 0, (3, .inl (fun _ => 0)))), (p9q16, .inr (1, [.ref p9p20q7, .ref p9p20q14, .ref p9p20q21, .int 0, .int 0, .int 0])), (p9p20q7, .inl (cy 0, (16, .inl (fun _ => 0)))), (p9p20q14, .inl (cy 0, (4, .inl (fun _ => 0)))), (p9p20q21, .inl (cy 0, (3, .inl (fun _ => 0)))), (p9q30, .inl (cy 0, (128, .inl (fun _ => 0)))), (q16, .inr (4, [.ref p20q8])), (p20q8, .inl (cy 0, (3888, .inl gc_one))), (q27, .inr (3, [.ref q5, .ref p35q5, .ref p35q16, .ref p35q29])), (p35q5, .inr (5, [.ref p35p9q8])), (p35p9q8, .inl (cy 1, (324, .inr (.inr (.inr (.inl (fun _ => 0))))))), (p35q16, .inr (5, [.ref p35p20q8])), (p35p20q8, .inl (cy 1, (324, .inr (.inr (.inr (.inl (fun _ => 0))))))), (p35q29, .inl (cy 1, (16, .inr (.inr (.inr (.inl (fun _ => 0)))))))]) hC [.ref q5] [19] [0, 1, 2, 3, 4, 5, 6, 7, 8, 9, 10, 11, 12, 13, 14, 15, 16, 17, 18] dX7_init_50 mi_X7_34 (cc_X0 q42 q5) rfl rfl (by decide) (by decide) (by decide) (by decide) (Nat.le_of_ble_eq_true rfl) (Nat.le_of_ble_eq_true rfl) (Nat.le_of_ble_eq_true rfl) (fun w50 hw50 => ?_)
  obtain ⟨p50q5, p50p9q8, p50q18, rfl⟩ := hw50
  refine gc_putF (j := 3) hC 0 dX7_init_53 cf_X7 fl_X7_35 rfl (by decide) rfl hin rfl rfl rfl (Nat.le_of_ble_eq_true rfl) ?_
  refine gc_aload_n hC dX7_init_56 rfl ?_
  refine gc_new hC [.null, .null, .int 0, .int 0, .int 0, .int 0, .int 0, .int 0, .int 0, .int 0, .int 0, .int 0] dX7_init_57 cf_X2 cl_X7_39 is_X2 wn_X2 (by decide +kernel) (Nat.le_of_ble_eq_true rfl) (Nat.le_of_ble_eq_true rfl) (fun q57 => ?_)
  refine gc_dup hC dX7_init_60 rfl ?_
  refine gc_aload_n hC dX7_init_61 rfl ?_
  refine gc_getR (j := 0) hC 0 dX7_init_62 cf_X7 fl_X7_12 rfl rfl (by decide) ?_
  refine gc_callI (wr := [(h0, .inr (7, [.ref q5, .ref q16, .ref q27, .ref q42, .null])), (q5, .inr (6, [.ref p9q5, .ref p9q16, .ref p9q30, .int 0, .int 0, .int 0])), (p9q5, .inr (1, [.ref p9p9q7, .ref p9p9q14, .ref p9p9q21, .int 0, .int 0, .int 0])), (p9p9q7, .inl (cy 0, (16, .inl (fun _ => 0)))), (p9p9q14, .inl (cy 0, (4, .inl (fun _ => 0)))), (p9p9q21, .inl (cy 0, (3, .inl (fun _ => 0)))), (p9q16, .inr (1, [.ref p9p20q7, .ref p9p20q14, .ref p9p20q21, .int 0, .int 0, .int 0])), (p9p20q7, .inl (cy 0, (16, .inl (fun _ => 0)))), (p9p20q14, .inl (cy 0, (4, .inl (fun _ => 0)))), (p9p20q21, .inl (cy 0, (3, .inl (fun _ => 0)))), (p9q30, .inl (cy 0, (128, .inl (fun _ => 0)))), (q16, .inr (4, [.ref p20q8])), (p20q8, .inl (cy 0, (3888, .inl gc_one))), (q27, .inr (3, [.ref q5, .ref p35q5, .ref p35q16, .ref p35q29])), (p35q5, .inr (5, [.ref p35p9q8])), (p35p9q8, .inl (cy 1, (324, .inr (.inr (.inr (.inl (fun _ => 0))))))), (p35q16, .inr (5, [.ref p35p20q8])), (p35p20q8, .inl (cy 1, (324, .inr (.inr (.inr (.inl (fun _ => 0))))))), (p35q29, .inl (cy 1, (16, .inr (.inr (.inr (.inl (fun _ => 0))))))), (q42, .inr (0, [.ref q5, .ref p50q5, .ref p50q18, .int 0, .int 0, .int 0])), (p50q5, .inr (5, [.ref p50p9q8])), (p50p9q8, .inl (cy 1, (324, .inr (.inr (.inr (.inl (fun _ => 0))))))), (p50q18, .inl (cy 1, (40, .inr (.inr (.inr (.inl (fun _ => 0)))))))]) hC [.ref q5] [23] [0, 1, 2, 3, 4, 5, 6, 7, 8, 9, 10, 11, 12, 13, 14, 15, 16, 17, 18, 19, 20, 21, 22] dX7_init_65 mi_X7_41 (cc_X2 q57 q5) rfl rfl (by decide) (by decide) (by decide) (by decide) (Nat.le_of_ble_eq_true rfl) (Nat.le_of_ble_eq_true rfl) (Nat.le_of_ble_eq_true rfl) (fun w65 hw65 => ?_)
  obtain ⟨p65q6, rfl⟩ := hw65
  refine gc_putF (j := 4) hC 0 dX7_init_68 cf_X7 fl_X7_42 rfl (by decide) rfl hin rfl rfl rfl (Nat.le_of_ble_eq_true rfl) ?_
  refine gc_aload_n hC dX7_init_71 rfl ?_
  refine gc_getR (j := 0) hC 0 dX7_init_72 cf_X7 fl_X7_12 rfl rfl (by decide) ?_
  refine gc_iconst hC (1) dX7_init_75 (by decide) ?_
  refine gc_iconst hC (1) dX7_init_76 (by decide) ?_
  refine gc_iconst hC (2) dX7_init_77 (by decide) ?_
  refine gc_iconst hC (0) dX7_init_78 (by decide) ?_
  refine gc_inj (ad := (fun k => ([h0, q5, p9q30, p9q5, p9p9q7, p9p9q14, p9p9q21, p9q16, p9p20q7, p9p20q14, p9p20q21, q16, p20q8, q27, p35q5, p35p9q8, p35q16, p35p20q8, p35q29, q42, p50q5, p50p9q8, p50q18, q57, p65q6][k]?).getD 0)) (cy := cy) (lay := lx_lay) (gc_I0, fun _ _ => 0) [0, 1, 10, 2, 3, 4, 5, 6, 7, 8, 9, 11, 12, 13, 14, 15, 16, 17, 18, 19, 20, 21, 22, 23, 24] rfl (by decide) (fun hJ => ?_)
  refine gc_callG (ad := (fun k => ([h0, q5, p9q30, p9q5, p9p9q7, p9p9q14, p9p9q21, p9q16, p9p20q7, p9p20q14, p9p20q21, q16, p20q8, q27, p35q5, p35p9q8, p35q16, p35p20q8, p35q29, q42, p50q5, p50p9q8, p50q18, q57, p65q6][k]?).getD 0)) (cy := cy) (lay := lx_lay) (M := (gc_I0, fun _ _ => 0)) (wr := []) (k := 1) hC [.int 1, .int 1, .int 2, .int 0] [0, 1, 10, 2, 3, 4, 5, 6, 7, 8, 9, 11, 12, 13, 14, 15, 16, 17, 18, 19, 20, 21, 22, 23, 24] [] dX7_init_79 ml_X7_46 rfl rfl (ct_X6_lay hJ _ _ 1 1 2 false _ _ _ _ rfl rfl rfl rfl (by unfold cf_ok tb_ok; decide)) hJ rfl rfl (by decide) (by decide) (by decide) (Nat.le_of_ble_eq_true rfl) (Nat.le_of_ble_eq_true rfl) (Nat.le_of_ble_eq_true rfl) (fun v M1 h1 => ?_)
  obtain ⟨J1, rfl, rfl, k1, k2⟩ := h1
  exact gc_vret hC dX7_init_82 ⟨_, J1, hJ, rfl, rfl, k1, k2⟩
set_option maxHeartbeats 4000000 in
set_option maxRecDepth 100000 in
theorem cc_X8 (h0 : Nat) : gc_Ct l D cy yX8_init cX8_init 1 4 14 4047 [.ref h0] [(h0, .inr (8, [.int 0, .int 0, .int 0, .int 0, .null, .null, .null, .null, .int 0, .null, .int 0, .int 0, .int 0, .int 0, .int 0, .int 0, .null, .null, .null, .null, .null, .null, .null, .null, .int 0, .null]))] (fun w1 => ∃ (ad : Nat → Nat) (J : Nat → Nat → Int32), gz_inj ad lm_lay ∧ ad 0 = h0 ∧ w1 = gz_ws ad cy lm_lay (J, fun _ _ => 0) ∧ xm_tab 1 1 2 false J ∧ (∀ i, i < 3888 → J 4 i = 1) ∧ (∀ i, 3888 ≤ i → J 4 i = gc_J0 4 i) ∧ J 0 8 = 0 ∧ ∀ j, j ≠ 8 → J 0 j = gc_J0 0 j) := by
  refine gc_met (by decide +kernel) rfl (Nat.le_of_ble_eq_true rfl) ?_
  intro p e s m args below meth c hC hin
  refine gc_aload_n hC dX8_init_0 rfl ?_
  refine gc_obj hC dX8_init_1 ol_X8_1 oi_I oi_C (Nat.le_of_ble_eq_true rfl) (Nat.le_of_ble_eq_true rfl) rfl ?_
  refine gc_aload_n hC dX8_init_4 rfl ?_
  refine gc_iconst hC (1) dX8_init_5 (by decide) ?_
  refine gc_put (j := 0) hC 0 dX8_init_6 cf_X8 fl_X8_7 rfl (by decide) rfl rfl rfl (Nat.le_of_ble_eq_true rfl) ?_
  refine gc_aload_n hC dX8_init_9 rfl ?_
  refine gc_iconst hC (1) dX8_init_10 (by decide) ?_
  refine gc_put (j := 1) hC 0 dX8_init_11 cf_X8 fl_X8_13 rfl (by decide) rfl rfl rfl (Nat.le_of_ble_eq_true rfl) ?_
  refine gc_aload_n hC dX8_init_14 rfl ?_
  refine gc_iconst hC (2) dX8_init_15 (by decide) ?_
  refine gc_put (j := 2) hC 0 dX8_init_16 cf_X8 fl_X8_16 rfl (by decide) rfl rfl rfl (Nat.le_of_ble_eq_true rfl) ?_
  refine gc_aload_n hC dX8_init_19 rfl ?_
  refine gc_bipush hC (32) dX8_init_20 (by decide) ?_
  refine gc_newa (j := 0) hC (32, .inl (fun _ => 0)) 32 dX8_init_22 rfl rfl ra_I ac_I (fun _ => rfl) (by decide) (by decide) (by decide) (Nat.le_of_ble_eq_true rfl) (Nat.le_of_ble_eq_true rfl) (fun q22 => ?_)
  refine gc_putF (j := 4) hC 0 dX8_init_24 cf_X8 fl_X8_19 rfl (by decide) rfl hin rfl rfl rfl (Nat.le_of_ble_eq_true rfl) ?_
  refine gc_aload_n hC dX8_init_27 rfl ?_
  refine gc_iconst hC (2) dX8_init_28 (by decide) ?_
  refine gc_newa (j := 0) hC (2, .inl (fun _ => 0)) 2 dX8_init_29 rfl rfl ra_I ac_I (fun _ => rfl) (by decide) (by decide) (by decide) (Nat.le_of_ble_eq_true rfl) (Nat.le_of_ble_eq_true rfl) (fun q29 => ?_)
  refine gc_putF (j := 5) hC 0 dX8_init_31 cf_X8 fl_X8_23 rfl (by decide) rfl hin rfl rfl rfl (Nat.le_of_ble_eq_true rfl) ?_
  refine gc_aload_n hC dX8_init_34 rfl ?_
  refine gc_bipush hC (8) dX8_init_35 (by decide) ?_
  refine gc_newa (j := 0) hC (8, .inl (fun _ => 0)) 8 dX8_init_37 rfl rfl ra_I ac_I (fun _ => rfl) (by decide) (by decide) (by decide) (Nat.le_of_ble_eq_true rfl) (Nat.le_of_ble_eq_true rfl) (fun q37 => ?_)
  refine gc_putF (j := 6) hC 0 dX8_init_39 cf_X8 fl_X8_26 rfl (by decide) rfl hin rfl rfl rfl (Nat.le_of_ble_eq_true rfl) ?_
  refine gc_aload_n hC dX8_init_42 rfl ?_
  refine gc_sipush hC (3888) dX8_init_43 (by decide) ?_
  refine gc_newa (j := 0) hC (3888, .inl (fun _ => 0)) 3888 dX8_init_46 rfl rfl ra_I ac_I (fun _ => rfl) (by decide) (by decide) (by decide) (Nat.le_of_ble_eq_true rfl) (Nat.le_of_ble_eq_true rfl) (fun q46 => ?_)
  refine gc_putF (j := 7) hC 0 dX8_init_48 cf_X8 fl_X8_29 rfl (by decide) rfl hin rfl rfl rfl (Nat.le_of_ble_eq_true rfl) ?_
  refine gc_aload_n hC dX8_init_51 rfl ?_
  refine gc_iconst hC (2) dX8_init_52 (by decide) ?_
  refine gc_newa (j := 0) hC (2, .inl (fun _ => 0)) 2 dX8_init_53 rfl rfl ra_I ac_I (fun _ => rfl) (by decide) (by decide) (by decide) (Nat.le_of_ble_eq_true rfl) (Nat.le_of_ble_eq_true rfl) (fun q53 => ?_)
  refine gc_putF (j := 9) hC 0 dX8_init_55 cf_X8 fl_X8_32 rfl (by decide) rfl hin rfl rfl rfl (Nat.le_of_ble_eq_true rfl) ?_
  refine gc_aload_n hC dX8_init_58 rfl ?_
  refine gc_iconst hC (3) dX8_init_59 (by decide) ?_
  refine gc_newa (j := 0) hC (3, .inl (fun _ => 0)) 3 dX8_init_60 rfl rfl ra_I ac_I (fun _ => rfl) (by decide) (by decide) (by decide) (Nat.le_of_ble_eq_true rfl) (Nat.le_of_ble_eq_true rfl) (fun q60 => ?_)
  refine gc_putF (j := 16) hC 0 dX8_init_62 cf_X8 fl_X8_35 rfl (by decide) rfl hin rfl rfl rfl (Nat.le_of_ble_eq_true rfl) ?_
  refine gc_aload_n hC dX8_init_65 rfl ?_
  refine gc_bipush hC (18) dX8_init_66 (by decide) ?_
  refine gc_newa (j := 1) hC (18, .inr (.inr (.inr (.inl (fun _ => 0))))) 18 dX8_init_68 rfl rfl ra_D ac_D (fun _ => rfl) (by decide) (by decide) (by decide) (Nat.le_of_ble_eq_true rfl) (Nat.le_of_ble_eq_true rfl) (fun q68 => ?_)
  refine gc_putF (j := 17) hC 0 dX8_init_70 cf_X8 fl_X8_38 rfl (by decide) rfl hin rfl rfl rfl (Nat.le_of_ble_eq_true rfl) ?_
  refine gc_aload_n hC dX8_init_73 rfl ?_
  refine gc_bipush hC (40) dX8_init_74 (by decide) ?_
  refine gc_newa (j := 1) hC (40, .inr (.inr (.inr (.inl (fun _ => 0))))) 40 dX8_init_76 rfl rfl ra_D ac_D (fun _ => rfl) (by decide) (by decide) (by decide) (Nat.le_of_ble_eq_true rfl) (Nat.le_of_ble_eq_true rfl) (fun q76 => ?_)
  refine gc_putF (j := 18) hC 0 dX8_init_78 cf_X8 fl_X8_42 rfl (by decide) rfl hin rfl rfl rfl (Nat.le_of_ble_eq_true rfl) ?_
  refine gc_aload_n hC dX8_init_81 rfl ?_
  refine gc_bipush hC (10) dX8_init_82 (by decide) ?_
  refine gc_newa (j := 0) hC (10, .inl (fun _ => 0)) 10 dX8_init_84 rfl rfl ra_I ac_I (fun _ => rfl) (by decide) (by decide) (by decide) (Nat.le_of_ble_eq_true rfl) (Nat.le_of_ble_eq_true rfl) (fun q84 => ?_)
  refine gc_putF (j := 19) hC 0 dX8_init_86 cf_X8 fl_X8_45 rfl (by decide) rfl hin rfl rfl rfl (Nat.le_of_ble_eq_true rfl) ?_
  refine gc_aload_n hC dX8_init_89 rfl ?_
  refine gc_bipush hC (10) dX8_init_90 (by decide) ?_
  refine gc_newa (j := 0) hC (10, .inl (fun _ => 0)) 10 dX8_init_92 rfl rfl ra_I ac_I (fun _ => rfl) (by decide) (by decide) (by decide) (Nat.le_of_ble_eq_true rfl) (Nat.le_of_ble_eq_true rfl) (fun q92 => ?_)
  refine gc_putF (j := 20) hC 0 dX8_init_94 cf_X8 fl_X8_48 rfl (by decide) rfl hin rfl rfl rfl (Nat.le_of_ble_eq_true rfl) ?_
  refine gc_aload_n hC dX8_init_97 rfl ?_
  refine gc_bipush hC (10) dX8_init_98 (by decide) ?_
  refine gc_newa (j := 1) hC (10, .inr (.inr (.inr (.inl (fun _ => 0))))) 10 dX8_init_100 rfl rfl ra_D ac_D (fun _ => rfl) (by decide) (by decide) (by decide) (Nat.le_of_ble_eq_true rfl) (Nat.le_of_ble_eq_true rfl) (fun q100 => ?_)
  refine gc_putF (j := 21) hC 0 dX8_init_102 cf_X8 fl_X8_51 rfl (by decide) rfl hin rfl rfl rfl (Nat.le_of_ble_eq_true rfl) ?_
  refine gc_aload_n hC dX8_init_105 rfl ?_
  refine gc_bipush hC (10) dX8_init_106 (by decide) ?_
  refine gc_newa (j := 0) hC (10, .inl (fun _ => 0)) 10 dX8_init_108 rfl rfl ra_I ac_I (fun _ => rfl) (by decide) (by decide) (by decide) (Nat.le_of_ble_eq_true rfl) (Nat.le_of_ble_eq_true rfl) (fun q108 => ?_)
  refine gc_putF (j := 22) hC 0 dX8_init_110 cf_X8 fl_X8_54 rfl (by decide) rfl hin rfl rfl rfl (Nat.le_of_ble_eq_true rfl) ?_
  refine gc_aload_n hC dX8_init_113 rfl ?_
  refine gc_bipush hC (10) dX8_init_114 (by decide) ?_
  refine gc_newa (j := 2) hC (10, .inl (fun _ => 0)) 10 dX8_init_116 rfl rfl ra_Z ac_Z (fun _ => rfl) (by decide) (by decide) (by decide) (Nat.le_of_ble_eq_true rfl) (Nat.le_of_ble_eq_true rfl) (fun q116 => ?_)
  refine gc_putF (j := 23) hC 0 dX8_init_118 cf_X8 fl_X8_57 rfl (by decide) rfl hin rfl rfl rfl (Nat.le_of_ble_eq_true rfl) ?_
  refine gc_aload_n hC dX8_init_121 rfl ?_
  refine gc_iconst hC (4) dX8_init_122 (by decide) ?_
  refine gc_newa (j := 0) hC (4, .inl (fun _ => 0)) 4 dX8_init_123 rfl rfl ra_I ac_I (fun _ => rfl) (by decide) (by decide) (by decide) (Nat.le_of_ble_eq_true rfl) (Nat.le_of_ble_eq_true rfl) (fun q123 => ?_)
  refine gc_putF (j := 25) hC 0 dX8_init_125 cf_X8 fl_X8_61 rfl (by decide) rfl hin rfl rfl rfl (Nat.le_of_ble_eq_true rfl) ?_
  refine gc_aload_n hC dX8_init_128 rfl ?_
  refine gc_inj (ad := (fun k => ([h0, q22, q29, q37, q46, q53, q60, q68, q76, q84, q92, q100, q108, q116, q123][k]?).getD 0)) (cy := cy) (lay := lm_lay) (gc_J0, fun _ _ => 0) [0, 1, 2, 3, 4, 5, 6, 7, 8, 9, 10, 11, 12, 13, 14] rfl (by decide) (fun hJ => ?_)
  refine gc_callG (ad := (fun k => ([h0, q22, q29, q37, q46, q53, q60, q68, q76, q84, q92, q100, q108, q116, q123][k]?).getD 0)) (cy := cy) (lay := lm_lay) (M := (gc_J0, fun _ _ => 0)) (wr := []) (k := 0) hC [] [0, 1, 2, 3, 4, 5, 6, 7, 8, 9, 10, 11, 12, 13, 14] [] dX8_init_129 ml_X8_64 rfl rfl (ct_X8_lay hJ _ _ 1 1 2 false ⟨rfl, rfl, rfl, rfl⟩ (by unfold cf_ok tb_ok; decide)) hJ rfl rfl (by decide) (by decide) (by decide) (Nat.le_of_ble_eq_true rfl) (Nat.le_of_ble_eq_true rfl) (Nat.le_of_ble_eq_true rfl) (fun v M1 h1 => ?_)
  obtain ⟨J1, rfl, rfl, k1, k2, k3, k4, k5⟩ := h1
  exact gc_vret hC dX8_init_132 ⟨_, J1, hJ, rfl, rfl, k1, k2, k3, k4, k5⟩
end CT
