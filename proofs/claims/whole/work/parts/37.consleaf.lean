/-! constructors: facts, and the leaves -/
theorem ac_I : Cond.arrayClass (newarray.typeOf .int) ∈ gz_XS := List.mem_filter.mpr ⟨by decide +kernel, rfl⟩
theorem ac_D : Cond.arrayClass (newarray.typeOf .double) ∈ gz_XS := List.mem_filter.mpr ⟨by decide +kernel, rfl⟩
theorem ac_Z : Cond.arrayClass (newarray.typeOf .boolean) ∈ gz_XS := List.mem_filter.mpr ⟨by decide +kernel, rfl⟩
theorem ra_I (U : State) (cA : ClassId) (h : va_RA U cA .int) : U.vm.findClass ("[" ++ (FieldType.toString .int)) = some cA := h
theorem ra_D (U : State) (cA : ClassId) (h : va_RA U cA .double) : U.vm.findClass ("[" ++ (FieldType.toString .double)) = some cA := h
theorem ra_Z (U : State) (cA : ClassId) (h : va_RA U cA .boolean) : U.vm.findClass ("[" ++ (FieldType.toString .boolean)) = some cA := h
theorem oi_I : Cond.instanceMethod objectInit ∈ gz_XS := List.mem_filter.mpr ⟨by decide +kernel, rfl⟩
theorem oi_C : Cond.code objectInit ⟨#[0xb1]⟩ 1 none ∈ gz_XS := List.mem_filter.mpr ⟨by decide +kernel, rfl⟩
theorem is_X0 : Cond.instantiable RX0 6 ∈ gz_XS := List.mem_filter.mpr ⟨by decide +kernel, rfl⟩
theorem is_X1 : Cond.instantiable RX1 6 ∈ gz_XS := List.mem_filter.mpr ⟨by decide +kernel, rfl⟩
theorem is_X2 : Cond.instantiable RX2 12 ∈ gz_XS := List.mem_filter.mpr ⟨by decide +kernel, rfl⟩
theorem is_X3 : Cond.instantiable RX3 4 ∈ gz_XS := List.mem_filter.mpr ⟨by decide +kernel, rfl⟩
theorem is_X4 : Cond.instantiable RX4 1 ∈ gz_XS := List.mem_filter.mpr ⟨by decide +kernel, rfl⟩
theorem is_X5 : Cond.instantiable RX5 1 ∈ gz_XS := List.mem_filter.mpr ⟨by decide +kernel, rfl⟩
theorem is_X6 : Cond.instantiable RX6 6 ∈ gz_XS := List.mem_filter.mpr ⟨by decide +kernel, rfl⟩
theorem is_X7 : Cond.instantiable RX7 5 ∈ gz_XS := List.mem_filter.mpr ⟨by decide +kernel, rfl⟩
theorem is_X8 : Cond.instantiable RX8 26 ∈ gz_XS := List.mem_filter.mpr ⟨by decide +kernel, rfl⟩
theorem cl_L_7 : Cond.classLink RL 7 RX7 ∈ gz_XS := gz_mS 57 (by decide +kernel) rfl
theorem mi_L_9 : gc_KI RL 9 yX7_init cX7_init 1 0 := ⟨gz_mS 59 (by decide +kernel) rfl, wi_X7_init, wn_X7, wc_X7_init, wp_X7_init, rfl⟩
theorem ol_X7_3 : Cond.methodLink RX7 3 objectInit ∈ gz_XS := gz_mS 62 (by decide +kernel) rfl
theorem cl_X7_9 : Cond.classLink RX7 9 RX6 ∈ gz_XS := gz_mS 65 (by decide +kernel) rfl
theorem mi_X7_11 : gc_KIN RX7 11 yX6_init "DiceCups" cX6_init 1 0 := ⟨gz_mN 67 (by decide +kernel) rfl, wi_X6_init, wn_X6, wc_X6_init, wp_X6_init, rfl⟩
theorem ol_X6_3 : Cond.methodLink RX6 3 objectInit ∈ gz_XS := gz_mS 70 (by decide +kernel) rfl
theorem cl_X6_9 : Cond.classLink RX6 9 RX1 ∈ gz_XS := gz_mS 71 (by decide +kernel) rfl
theorem mi_X6_11 : gc_KIN RX6 11 yX1_init "DiceCups" cX1_init 1 0 := ⟨gz_mN 73 (by decide +kernel) rfl, wi_X1_init, wn_X1, wc_X1_init, wp_X1_init, rfl⟩
theorem ol_X1_3 : Cond.methodLink RX1 3 objectInit ∈ gz_XS := gz_mS 76 (by decide +kernel) rfl
theorem cl_X7_16 : Cond.classLink RX7 16 RX4 ∈ gz_XS := gz_mS 132 (by decide +kernel) rfl
theorem mi_X7_18 : gc_KI RX7 18 yX4_init cX4_init 1 0 := ⟨gz_mS 134 (by decide +kernel) rfl, wi_X4_init, wn_X4, wc_X4_init, wp_X4_init, rfl⟩
theorem ol_X4_3 : Cond.methodLink RX4 3 objectInit ∈ gz_XS := gz_mS 137 (by decide +kernel) rfl
theorem cl_X7_23 : Cond.classLink RX7 23 RX3 ∈ gz_XS := gz_mS 145 (by decide +kernel) rfl
theorem mi_X7_25 : gc_KI RX7 25 yX3_init cX3_init 2 1 := ⟨gz_mS 147 (by decide +kernel) rfl, wi_X3_init, wn_X3, wc_X3_init, wp_X3_init, rfl⟩
theorem ol_X3_3 : Cond.methodLink RX3 3 objectInit ∈ gz_XS := gz_mS 150 (by decide +kernel) rfl
theorem cl_X3_9 : Cond.classLink RX3 9 RX5 ∈ gz_XS := gz_mS 151 (by decide +kernel) rfl
theorem mi_X3_11 : gc_KIN RX3 11 yX5_init "DiceCups" cX5_init 1 0 := ⟨gz_mN 153 (by decide +kernel) rfl, wi_X5_init, wn_X5, wc_X5_init, wp_X5_init, rfl⟩
theorem ol_X5_3 : Cond.methodLink RX5 3 objectInit ∈ gz_XS := gz_mS 156 (by decide +kernel) rfl
theorem cl_X7_32 : Cond.classLink RX7 32 RX0 ∈ gz_XS := gz_mS 175 (by decide +kernel) rfl
theorem mi_X7_34 : gc_KI RX7 34 yX0_init cX0_init 2 1 := ⟨gz_mS 177 (by decide +kernel) rfl, wi_X0_init, wn_X0, wc_X0_init, wp_X0_init, rfl⟩
theorem ol_X0_3 : Cond.methodLink RX0 3 objectInit ∈ gz_XS := gz_mS 180 (by decide +kernel) rfl
theorem cl_X0_9 : Cond.classLink RX0 9 RX5 ∈ gz_XS := gz_mS 181 (by decide +kernel) rfl
theorem mi_X0_11 : gc_KIN RX0 11 yX5_init "DiceCups" cX5_init 1 0 := ⟨gz_mN 182 (by decide +kernel) rfl, wi_X5_init, wn_X5, wc_X5_init, wp_X5_init, rfl⟩
theorem cl_X7_39 : Cond.classLink RX7 39 RX2 ∈ gz_XS := gz_mS 202 (by decide +kernel) rfl
theorem mi_X7_41 : gc_KI RX7 41 yX2_init cX2_init 2 1 := ⟨gz_mS 204 (by decide +kernel) rfl, wi_X2_init, wn_X2, wc_X2_init, wp_X2_init, rfl⟩
theorem ol_X2_3 : Cond.methodLink RX2 3 objectInit ∈ gz_XS := gz_mS 207 (by decide +kernel) rfl
theorem cl_L_10 : Cond.classLink RL 10 RX8 ∈ gz_XS := gz_mS 639 (by decide +kernel) rfl
theorem mi_L_12 : gc_KI RL 12 yX8_init cX8_init 1 0 := ⟨gz_mS 641 (by decide +kernel) rfl, wi_X8_init, wn_X8, wc_X8_init, wp_X8_init, rfl⟩
theorem ol_X8_1 : Cond.methodLink RX8 1 objectInit ∈ gz_XS := gz_mS 644 (by decide +kernel) rfl
section CT
variable {l : Launch} {D : va_G} {cy : Nat → ClassId}
set_option maxHeartbeats 4000000 in
set_option maxRecDepth 100000 in
theorem cc_X1 (h0 : Nat) : gc_Ct l D cy yX1_init cX1_init 1 1 3 23 [.ref h0] [(h0, .inr (1, [.null, .null, .null, .int 0, .int 0, .int 0]))] (fun w1 => ∃ q7 q14 q21 : Nat, w1 = [(h0, .inr (1, [.ref q7, .ref q14, .ref q21, .int 0, .int 0, .int 0])), (q7, .inl (cy 0, (16, .inl (fun _ => 0)))), (q14, .inl (cy 0, (4, .inl (fun _ => 0)))), (q21, .inl (cy 0, (3, .inl (fun _ => 0))))]) := by
  refine gc_met (by decide +kernel) rfl (Nat.le_of_ble_eq_true rfl) ?_
  intro p e s m args below meth c hC hin
  refine gc_aload_n hC dX1_init_0 rfl ?_
  refine gc_obj hC dX1_init_1 ol_X1_3 oi_I oi_C (Nat.le_of_ble_eq_true rfl) (Nat.le_of_ble_eq_true rfl) rfl ?_
  refine gc_aload_n hC dX1_init_4 rfl ?_
  refine gc_bipush hC (16) dX1_init_5 (by decide) ?_
  refine gc_newa (j := 0) hC (16, .inl (fun _ => 0)) 16 dX1_init_7 rfl rfl ra_I ac_I (fun _ => rfl) (by decide) (by decide) (by decide) (Nat.le_of_ble_eq_true rfl) (Nat.le_of_ble_eq_true rfl) (fun q7 => ?_)
  refine gc_putF (j := 0) hC 0 dX1_init_9 cf_X1 fl_X1_9 rfl (by decide) rfl hin rfl rfl rfl (Nat.le_of_ble_eq_true rfl) ?_
  refine gc_aload_n hC dX1_init_12 rfl ?_
  refine gc_iconst hC (4) dX1_init_13 (by decide) ?_
  refine gc_newa (j := 0) hC (4, .inl (fun _ => 0)) 4 dX1_init_14 rfl rfl ra_I ac_I (fun _ => rfl) (by decide) (by decide) (by decide) (Nat.le_of_ble_eq_true rfl) (Nat.le_of_ble_eq_true rfl) (fun q14 => ?_)
  refine gc_putF (j := 1) hC 0 dX1_init_16 cf_X1 fl_X1_15 rfl (by decide) rfl hin rfl rfl rfl (Nat.le_of_ble_eq_true rfl) ?_
  refine gc_aload_n hC dX1_init_19 rfl ?_
  refine gc_iconst hC (3) dX1_init_20 (by decide) ?_
  refine gc_newa (j := 0) hC (3, .inl (fun _ => 0)) 3 dX1_init_21 rfl rfl ra_I ac_I (fun _ => rfl) (by decide) (by decide) (by decide) (Nat.le_of_ble_eq_true rfl) (Nat.le_of_ble_eq_true rfl) (fun q21 => ?_)
  refine gc_putF (j := 2) hC 0 dX1_init_23 cf_X1 fl_X1_18 rfl (by decide) rfl hin rfl rfl rfl (Nat.le_of_ble_eq_true rfl) ?_
  exact gc_vret hC dX1_init_26 ⟨_, _, _, rfl⟩
set_option maxHeartbeats 4000000 in
set_option maxRecDepth 100000 in
theorem cc_X5 (h0 : Nat) : gc_Ct l D cy yX5_init cX5_init 1 1 1 324 [.ref h0] [(h0, .inr (5, [.null]))] (fun w1 => ∃ q8 : Nat, w1 = [(h0, .inr (5, [.ref q8])), (q8, .inl (cy 1, (324, .inr (.inr (.inr (.inl (fun _ => 0)))))))]) := by
  refine gc_met (by decide +kernel) rfl (Nat.le_of_ble_eq_true rfl) ?_
  intro p e s m args below meth c hC hin
  refine gc_aload_n hC dX5_init_0 rfl ?_
  refine gc_obj hC dX5_init_1 ol_X5_3 oi_I oi_C (Nat.le_of_ble_eq_true rfl) (Nat.le_of_ble_eq_true rfl) rfl ?_
  refine gc_aload_n hC dX5_init_4 rfl ?_
  refine gc_sipush hC (324) dX5_init_5 (by decide) ?_
  refine gc_newa (j := 1) hC (324, .inr (.inr (.inr (.inl (fun _ => 0))))) 324 dX5_init_8 rfl rfl ra_D ac_D (fun _ => rfl) (by decide) (by decide) (by decide) (Nat.le_of_ble_eq_true rfl) (Nat.le_of_ble_eq_true rfl) (fun q8 => ?_)
  refine gc_putF (j := 0) hC 0 dX5_init_10 cf_X5 fl_X5_9 rfl (by decide) rfl hin rfl rfl rfl (Nat.le_of_ble_eq_true rfl) ?_
  exact gc_vret hC dX5_init_13 ⟨_, rfl⟩
set_option maxHeartbeats 4000000 in
set_option maxRecDepth 100000 in
theorem cc_X2 (h0 t0 : Nat) : gc_Ct l D cy yX2_init cX2_init 2 1 1 4 [.ref h0, .ref t0] [(h0, .inr (2, [.null, .null, .int 0, .int 0, .int 0, .int 0, .int 0, .int 0, .int 0, .int 0, .int 0, .int 0]))] (fun w1 => ∃ q6 : Nat, w1 = [(h0, .inr (2, [.ref t0, .ref q6, .int 0, .int 0, .int 0, .int 0, .int (-1), .int (-1), .int 0, .int (-1), .int 0, .int 0])), (q6, .inl (cy 0, (4, .inl (fun _ => 0))))]) := by
  refine gc_met (by decide +kernel) rfl (Nat.le_of_ble_eq_true rfl) ?_
  intro p e s m args below meth c hC hin
  refine gc_aload_n hC dX2_init_0 rfl ?_
  refine gc_obj hC dX2_init_1 ol_X2_3 oi_I oi_C (Nat.le_of_ble_eq_true rfl) (Nat.le_of_ble_eq_true rfl) rfl ?_
  refine gc_aload_n hC dX2_init_4 rfl ?_
  refine gc_iconst hC (4) dX2_init_5 (by decide) ?_
  refine gc_newa (j := 0) hC (4, .inl (fun _ => 0)) 4 dX2_init_6 rfl rfl ra_I ac_I (fun _ => rfl) (by decide) (by decide) (by decide) (Nat.le_of_ble_eq_true rfl) (Nat.le_of_ble_eq_true rfl) (fun q6 => ?_)
  refine gc_putF (j := 1) hC 0 dX2_init_8 cf_X2 fl_X2_9 rfl (by decide) rfl hin rfl rfl rfl (Nat.le_of_ble_eq_true rfl) ?_
  refine gc_aload_n hC dX2_init_11 rfl ?_
  refine gc_iconst hC (-1) dX2_init_12 (by decide) ?_
  refine gc_put (j := 6) hC 0 dX2_init_13 cf_X2 fl_X2_15 rfl (by decide) rfl rfl rfl (Nat.le_of_ble_eq_true rfl) ?_
  refine gc_aload_n hC dX2_init_16 rfl ?_
  refine gc_iconst hC (-1) dX2_init_17 (by decide) ?_
  refine gc_put (j := 7) hC 0 dX2_init_18 cf_X2 fl_X2_19 rfl (by decide) rfl rfl rfl (Nat.le_of_ble_eq_true rfl) ?_
  refine gc_aload_n hC dX2_init_21 rfl ?_
  refine gc_iconst hC (-1) dX2_init_22 (by decide) ?_
  refine gc_put (j := 9) hC 0 dX2_init_23 cf_X2 fl_X2_22 rfl (by decide) rfl rfl rfl (Nat.le_of_ble_eq_true rfl) ?_
  refine gc_aload_n hC dX2_init_26 rfl ?_
  refine gc_aload_n hC dX2_init_27 rfl ?_
  refine gc_putF (j := 0) hC 0 dX2_init_28 cf_X2 fl_X2_25 rfl (by decide) rfl hin rfl rfl rfl (Nat.le_of_ble_eq_true rfl) ?_
  exact gc_vret hC dX2_init_31 ⟨_, rfl⟩
set_option maxHeartbeats 4000000 in
set_option maxRecDepth 100000 in
theorem cc_X6 (h0 : Nat) : gc_Ct l D cy yX6_init cX6_init 1 2 9 186 [.ref h0] [(h0, .inr (6, [.null, .null, .null, .int 0, .int 0, .int 0]))] (fun w1 => ∃ q5 p9q7 p9q14 p9q21 q16 p20q7 p20q14 p20q21 q30 : Nat, w1 = [(h0, .inr (6, [.ref q5, .ref q16, .ref q30, .int 0, .int 0, .int 0])), (q5, .inr (1, [.ref p9q7, .ref p9q14, .ref p9q21, .int 0, .int 0, .int 0])), (p9q7, .inl (cy 0, (16, .inl (fun _ => 0)))), (p9q14, .inl (cy 0, (4, .inl (fun _ => 0)))), (p9q21, .inl (cy 0, (3, .inl (fun _ => 0)))), (q16, .inr (1, [.ref p20q7, .ref p20q14, .ref p20q21, .int 0, .int 0, .int 0])), (p20q7, .inl (cy 0, (16, .inl (fun _ => 0)))), (p20q14, .inl (cy 0, (4, .inl (fun _ => 0)))), (p20q21, .inl (cy 0, (3, .inl (fun _ => 0)))), (q30, .inl (cy 0, (128, .inl (fun _ => 0))))]) := by
  refine gc_met (by decide +kernel) rfl (Nat.le_of_ble_eq_true rfl) ?_
  intro p e s m args below meth c hC hin
  refine gc_aload_n hC dX6_init_0 rfl ?_
  refine gc_obj hC dX6_init_1 ol_X6_3 oi_I oi_C (Nat.le_of_ble_eq_true rfl) (Nat.le_of_ble_eq_true rfl) rfl ?_
  refine gc_aload_n hC dX6_init_4 rfl ?_
  refine gc_new hC [.null, .null, .null, .int 0, .int 0, .int 0] dX6_init_5 cf_X1 cl_X6_9 is_X1 wn_X1 (by decide +kernel) (Nat.le_of_ble_eq_true rfl) (Nat.le_of_ble_eq_true rfl) (fun q5 => ?_)
  refine gc_dup hC dX6_init_8 rfl ?_
  refine gc_callIN (wr := [(h0, .inr (6, [.null, .null, .null, .int 0, .int 0, .int 0]))]) hC [] [1] [0] dX6_init_9 mi_X6_11 (cc_X1 q5) rfl rfl (by decide) (by decide) (by decide) (by decide) (Nat.le_of_ble_eq_true rfl) (Nat.le_of_ble_eq_true rfl) (Nat.le_of_ble_eq_true rfl) (fun w9 hw9 => ?_)
  obtain ⟨p9q7, p9q14, p9q21, rfl⟩ := hw9
  refine gc_putF (j := 0) hC 0 dX6_init_12 cf_X6 fl_X6_12 rfl (by decide) rfl hin rfl rfl rfl (Nat.le_of_ble_eq_true rfl) ?_
  refine gc_aload_n hC dX6_init_15 rfl ?_
  refine gc_new hC [.null, .null, .null, .int 0, .int 0, .int 0] dX6_init_16 cf_X1 cl_X6_9 is_X1 wn_X1 (by decide +kernel) (Nat.le_of_ble_eq_true rfl) (Nat.le_of_ble_eq_true rfl) (fun q16 => ?_)
  refine gc_dup hC dX6_init_19 rfl ?_
  refine gc_callIN (wr := [(h0, .inr (6, [.ref q5, .null, .null, .int 0, .int 0, .int 0])), (q5, .inr (1, [.ref p9q7, .ref p9q14, .ref p9q21, .int 0, .int 0, .int 0])), (p9q7, .inl (cy 0, (16, .inl (fun _ => 0)))), (p9q14, .inl (cy 0, (4, .inl (fun _ => 0)))), (p9q21, .inl (cy 0, (3, .inl (fun _ => 0))))]) hC [] [5] [0, 1, 2, 3, 4] dX6_init_20 mi_X6_11 (cc_X1 q16) rfl rfl (by decide) (by decide) (by decide) (by decide) (Nat.le_of_ble_eq_true rfl) (Nat.le_of_ble_eq_true rfl) (Nat.le_of_ble_eq_true rfl) (fun w20 hw20 => ?_)
  obtain ⟨p20q7, p20q14, p20q21, rfl⟩ := hw20
  refine gc_putF (j := 1) hC 0 dX6_init_23 cf_X6 fl_X6_18 rfl (by decide) rfl hin rfl rfl rfl (Nat.le_of_ble_eq_true rfl) ?_
  refine gc_aload_n hC dX6_init_26 rfl ?_
  refine gc_sipush hC (128) dX6_init_27 (by decide) ?_
  refine gc_newa (j := 0) hC (128, .inl (fun _ => 0)) 128 dX6_init_30 rfl rfl ra_I ac_I (fun _ => rfl) (by decide) (by decide) (by decide) (Nat.le_of_ble_eq_true rfl) (Nat.le_of_ble_eq_true rfl) (fun q30 => ?_)
  refine gc_putF (j := 2) hC 0 dX6_init_32 cf_X6 fl_X6_21 rfl (by decide) rfl hin rfl rfl rfl (Nat.le_of_ble_eq_true rfl) ?_
  exact gc_vret hC dX6_init_35 ⟨_, _, _, _, _, _, _, _, _, rfl⟩
set_option maxHeartbeats 4000000 in
set_option maxRecDepth 100000 in
theorem cc_X3 (h0 t0 : Nat) : gc_Ct l D cy yX3_init cX3_init 2 2 5 666 [.ref h0, .ref t0] [(h0, .inr (3, [.null, .null, .null, .null]))] (fun w1 => ∃ q5 p9q8 q16 p20q8 q29 : Nat, w1 = [(h0, .inr (3, [.ref t0, .ref q5, .ref q16, .ref q29])), (q5, .inr (5, [.ref p9q8])), (p9q8, .inl (cy 1, (324, .inr (.inr (.inr (.inl (fun _ => 0))))))), (q16, .inr (5, [.ref p20q8])), (p20q8, .inl (cy 1, (324, .inr (.inr (.inr (.inl (fun _ => 0))))))), (q29, .inl (cy 1, (16, .inr (.inr (.inr (.inl (fun _ => 0)))))))]) := by
  refine gc_met (by decide +kernel) rfl (Nat.le_of_ble_eq_true rfl) ?_
  intro p e s m args below meth c hC hin
  refine gc_aload_n hC dX3_init_0 rfl ?_
  refine gc_obj hC dX3_init_1 ol_X3_3 oi_I oi_C (Nat.le_of_ble_eq_true rfl) (Nat.le_of_ble_eq_true rfl) rfl ?_
  refine gc_aload_n hC dX3_init_4 rfl ?_
  refine gc_new hC [.null] dX3_init_5 cf_X5 cl_X3_9 is_X5 wn_X5 (by decide +kernel) (Nat.le_of_ble_eq_true rfl) (Nat.le_of_ble_eq_true rfl) (fun q5 => ?_)
  refine gc_dup hC dX3_init_8 rfl ?_
  refine gc_callIN (wr := [(h0, .inr (3, [.null, .null, .null, .null]))]) hC [] [1] [0] dX3_init_9 mi_X3_11 (cc_X5 q5) rfl rfl (by decide) (by decide) (by decide) (by decide) (Nat.le_of_ble_eq_true rfl) (Nat.le_of_ble_eq_true rfl) (Nat.le_of_ble_eq_true rfl) (fun w9 hw9 => ?_)
  obtain ⟨p9q8, rfl⟩ := hw9
  refine gc_putF (j := 1) hC 0 dX3_init_12 cf_X3 fl_X3_12 rfl (by decide) rfl hin rfl rfl rfl (Nat.le_of_ble_eq_true rfl) ?_
  refine gc_aload_n hC dX3_init_15 rfl ?_
  refine gc_new hC [.null] dX3_init_16 cf_X5 cl_X3_9 is_X5 wn_X5 (by decide +kernel) (Nat.le_of_ble_eq_true rfl) (Nat.le_of_ble_eq_true rfl) (fun q16 => ?_)
  refine gc_dup hC dX3_init_19 rfl ?_
  refine gc_callIN (wr := [(h0, .inr (3, [.null, .ref q5, .null, .null])), (q5, .inr (5, [.ref p9q8])), (p9q8, .inl (cy 1, (324, .inr (.inr (.inr (.inl (fun _ => 0)))))))]) hC [] [3] [0, 1, 2] dX3_init_20 mi_X3_11 (cc_X5 q16) rfl rfl (by decide) (by decide) (by decide) (by decide) (Nat.le_of_ble_eq_true rfl) (Nat.le_of_ble_eq_true rfl) (Nat.le_of_ble_eq_true rfl) (fun w20 hw20 => ?_)
  obtain ⟨p20q8, rfl⟩ := hw20
  refine gc_putF (j := 2) hC 0 dX3_init_23 cf_X3 fl_X3_18 rfl (by decide) rfl hin rfl rfl rfl (Nat.le_of_ble_eq_true rfl) ?_
  refine gc_aload_n hC dX3_init_26 rfl ?_
  refine gc_bipush hC (16) dX3_init_27 (by decide) ?_
  refine gc_newa (j := 1) hC (16, .inr (.inr (.inr (.inl (fun _ => 0))))) 16 dX3_init_29 rfl rfl ra_D ac_D (fun _ => rfl) (by decide) (by decide) (by decide) (Nat.le_of_ble_eq_true rfl) (Nat.le_of_ble_eq_true rfl) (fun q29 => ?_)
  refine gc_putF (j := 3) hC 0 dX3_init_31 cf_X3 fl_X3_21 rfl (by decide) rfl hin rfl rfl rfl (Nat.le_of_ble_eq_true rfl) ?_
  refine gc_aload_n hC dX3_init_34 rfl ?_
  refine gc_aload_n hC dX3_init_35 rfl ?_
  refine gc_putF (j := 0) hC 0 dX3_init_36 cf_X3 fl_X3_25 rfl (by decide) rfl hin rfl rfl rfl (Nat.le_of_ble_eq_true rfl) ?_
  exact gc_vret hC dX3_init_39 ⟨_, _, _, _, _, rfl⟩
set_option maxHeartbeats 4000000 in
set_option maxRecDepth 100000 in
theorem cc_X0 (h0 t0 : Nat) : gc_Ct l D cy yX0_init cX0_init 2 2 3 365 [.ref h0, .ref t0] [(h0, .inr (0, [.null, .null, .null, .int 0, .int 0, .int 0]))] (fun w1 => ∃ q5 p9q8 q18 : Nat, w1 = [(h0, .inr (0, [.ref t0, .ref q5, .ref q18, .int 0, .int 0, .int 0])), (q5, .inr (5, [.ref p9q8])), (p9q8, .inl (cy 1, (324, .inr (.inr (.inr (.inl (fun _ => 0))))))), (q18, .inl (cy 1, (40, .inr (.inr (.inr (.inl (fun _ => 0)))))))]) := by
  refine gc_met (by decide +kernel) rfl (Nat.le_of_ble_eq_true rfl) ?_
  intro p e s m args below meth c hC hin
  refine gc_aload_n hC dX0_init_0 rfl ?_
  refine gc_obj hC dX0_init_1 ol_X0_3 oi_I oi_C (Nat.le_of_ble_eq_true rfl) (Nat.le_of_ble_eq_true rfl) rfl ?_
  refine gc_aload_n hC dX0_init_4 rfl ?_
  refine gc_new hC [.null] dX0_init_5 cf_X5 cl_X0_9 is_X5 wn_X5 (by decide +kernel) (Nat.le_of_ble_eq_true rfl) (Nat.le_of_ble_eq_true rfl) (fun q5 => ?_)
  refine gc_dup hC dX0_init_8 rfl ?_
  refine gc_callIN (wr := [(h0, .inr (0, [.null, .null, .null, .int 0, .int 0, .int 0]))]) hC [] [1] [0] dX0_init_9 mi_X0_11 (cc_X5 q5) rfl rfl (by decide) (by decide) (by decide) (by decide) (Nat.le_of_ble_eq_true rfl) (Nat.le_of_ble_eq_true rfl) (Nat.le_of_ble_eq_true rfl) (fun w9 hw9 => ?_)
  obtain ⟨p9q8, rfl⟩ := hw9
  refine gc_putF (j := 1) hC 0 dX0_init_12 cf_X0 fl_X0_12 rfl (by decide) rfl hin rfl rfl rfl (Nat.le_of_ble_eq_true rfl) ?_
  refine gc_aload_n hC dX0_init_15 rfl ?_
  refine gc_bipush hC (40) dX0_init_16 (by decide) ?_
  refine gc_newa (j := 1) hC (40, .inr (.inr (.inr (.inl (fun _ => 0))))) 40 dX0_init_18 rfl rfl ra_D ac_D (fun _ => rfl) (by decide) (by decide) (by decide) (Nat.le_of_ble_eq_true rfl) (Nat.le_of_ble_eq_true rfl) (fun q18 => ?_)
  refine gc_putF (j := 2) hC 0 dX0_init_20 cf_X0 fl_X0_18 rfl (by decide) rfl hin rfl rfl rfl (Nat.le_of_ble_eq_true rfl) ?_
  refine gc_aload_n hC dX0_init_23 rfl ?_
  refine gc_aload_n hC dX0_init_24 rfl ?_
  refine gc_putF (j := 0) hC 0 dX0_init_25 cf_X0 fl_X0_22 rfl (by decide) rfl hin rfl rfl rfl (Nat.le_of_ble_eq_true rfl) ?_
  exact gc_vret hC dX0_init_28 ⟨_, _, _, rfl⟩
end CT
