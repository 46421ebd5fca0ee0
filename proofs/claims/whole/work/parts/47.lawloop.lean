/-! THE LAW: its loop, its start -/
section GK
variable {p : Program} {l : Launch} {e : Env} {s : State} {m : MethodId} {args : Array Value} {below : List Frame} {meth : Method} {c : Code} {D : va_G} {cy : Nat → ClassId} {A : Nat → Prop} {Q : State → Prop} {adx adm : Nat → Nat} {b L : Nat} {xs : Nat → Int32}
set_option maxHeartbeats 4000000 in
set_option maxRecDepth 100000 in
theorem gl_loop (hC : gc_X p s m args meth c RL cL_law ret 4 D cy A) (hx : gz_inj adx lx_lay) (hm : gz_inj adm lm_lay) (hX : va_X b L xs s s.heap) (hbl : b < s.heap.size) (hbA : ¬ A b) (hL : L ≤ 3584) (hE : ∀ (I J : Nat → Nat → Int32) (G H : Nat → Nat → UInt64) (i : Nat), gc_W p l e room_1 s m args below meth c D A 4 Q (gz_ws adx cy lx_lay (I, G) ++ gz_ws adm cy lm_lay (J, H)) 600000 7302250 791 [(0, .ref b), (1, .ref (adx 0)), (2, .ref (adm 0)), (3, .int (nI i))] []) : ∀ (n i : Nat), L ≤ i + n → i ≤ 3591 → ∀ (I J : Nat → Nat → Int32) (G H : Nat → Nat → UInt64), gl_S I J → gc_W p l e room_1 s m args below meth c D A 4 Q (gz_ws adx cy lx_lay (I, G) ++ gz_ws adm cy lm_lay (J, H)) 600000 7302250 18 [(0, .ref b), (1, .ref (adx 0)), (2, .ref (adm 0)), (3, .int (nI i))] [] := by
  intro n
  induction n with
  | zero =>
    intro i hn hi I J G H hS
    refine gl_iload_n hC dL_law_18 rfl ?_
    refine gc_aload_n hC dL_law_19 rfl ?_
    refine gl_slen hC hX hbl hbA dL_law_20 ?_
    refine gc_bipush hC 7 dL_law_21 (by decide) ?_
    refine gl_isub hC dL_law_23 ?_
    exact gl_icmp_gt hC 791 dL_law_24 (by decide) (fun _ => hE I J G H i) (fun q => absurd ((gl_end hL (by omega)).mpr (by omega)) q)
  | succ n ih =>
    intro i hn hi I J G H hS
    refine gl_iload_n hC dL_law_18 rfl ?_
    refine gc_aload_n hC dL_law_19 rfl ?_
    refine gl_slen hC hX hbl hbA dL_law_20 ?_
    refine gc_bipush hC 7 dL_law_21 (by decide) ?_
    refine gl_isub hC dL_law_23 ?_
    refine gl_icmp_gt hC 791 dL_law_24 (by decide) (fun _ => hE I J G H i) (fun q => ?_)
    have hi7 : i + 7 ≤ L := Nat.not_lt.mp (fun h => q ((gl_end hL (by omega)).mpr h))
    have hN : ∀ I G J H, gl_S I J → gc_W p l e room_1 s m args below meth c D A 4 Q (gz_ws adx cy lx_lay (I, G) ++ gz_ws adm cy lm_lay (J, H)) 600000 7302250 785 [(0, .ref b), (1, .ref (adx 0)), (2, .ref (adm 0)), (3, .int (nI i))] [] := by
      intro I G J H hS
      refine gl_iinc hC 7 dL_law_785 rfl (by decide) (by decide) ?_
      refine gl_goto hC 18 dL_law_788 (by decide) ?_
      refine gl_lw [(0, .ref b), (1, .ref (adx 0)), (2, .ref (adm 0)), (3, .int (nI i + 7))] ⟨rfl, rfl, rfl, rfl, trivial⟩ ?_
      rw [show nI i + 7 = nI (i + 7) from nI_add i 7]
      exact ih (i + 7) (by omega) (by omega) I J G H hS
    refine gc_aload_n hC dL_law_27 rfl ?_
    refine gl_iload_n hC dL_law_28 rfl ?_
    refine gl_sld hC hX hbl hbA (vp_in_nI (by omega) (by omega)) dL_law_29 ?_
    refine gc_bipush hC 31 dL_law_30 (by decide) ?_
    refine gl_iand hC dL_law_32 ?_
    generalize xs (nI i).toNatClampNeg &&& 31 = v
    rcases (show v.toInt < 0 ∨ 17 < v.toInt ∨ v.toInt = 0 ∨ v.toInt = 1 ∨ v.toInt = 2 ∨ v.toInt = 3 ∨ v.toInt = 4 ∨ v.toInt = 5 ∨ v.toInt = 6 ∨ v.toInt = 7 ∨ v.toInt = 8 ∨ v.toInt = 9 ∨ v.toInt = 10 ∨ v.toInt = 11 ∨ v.toInt = 12 ∨ v.toInt = 13 ∨ v.toInt = 14 ∨ v.toInt = 15 ∨ v.toInt = 16 ∨ v.toInt = 17 by omega) with q | q | q | q | q | q | q | q | q | q | q | q | q | q | q | q | q | q | q | q
    · exact gl_tabOut hC 785 dL_law_33 (Or.inl q) (by decide) (hN I G J H hS)
    · exact gl_tabOut hC 785 dL_law_33 (Or.inr q) (by decide) (hN I G J H hS)
    · exact gl_tabIn (off := 87) hC 120 dL_law_33 (by omega) (by omega) (by rw [q]; rfl) (by decide) (gl_k0 hC hx hm hX hbl hbA hL hi7 hS hN)
    · exact gl_tabIn (off := 156) hC 189 dL_law_33 (by omega) (by omega) (by rw [q]; rfl) (by decide) (gl_k1 hC hx hm hX hbl hbA hL hi7 hS hN)
    · exact gl_tabIn (off := 179) hC 212 dL_law_33 (by omega) (by omega) (by rw [q]; rfl) (by decide) (gl_k2 hC hx hm hX hbl hbA hL hi7 hS hN)
    · exact gl_tabIn (off := 222) hC 255 dL_law_33 (by omega) (by omega) (by rw [q]; rfl) (by decide) (gl_k3 hC hx hm hX hbl hbA hL hi7 hS hN)
    · exact gl_tabIn (off := 255) hC 288 dL_law_33 (by omega) (by omega) (by rw [q]; rfl) (by decide) (gl_k4 hC hx hm hX hbl hbA hL hi7 hS hN)
    · exact gl_tabIn (off := 298) hC 331 dL_law_33 (by omega) (by omega) (by rw [q]; rfl) (by decide) (gl_k5 hC hx hm hX hbl hbA hL hi7 hS hN)
    · exact gl_tabIn (off := 351) hC 384 dL_law_33 (by omega) (by omega) (by rw [q]; rfl) (by decide) (gl_k6 hC hx hm hX hbl hbA hL hi7 hS hN)
    · exact gl_tabIn (off := 404) hC 437 dL_law_33 (by omega) (by omega) (by rw [q]; rfl) (by decide) (gl_k7 hC hx hm hX hbl hbA hL hi7 hS hN)
    · exact gl_tabIn (off := 479) hC 512 dL_law_33 (by omega) (by omega) (by rw [q]; rfl) (by decide) (gl_k8 hC hx hm hX hbl hbA hL hi7 hS hN)
    · exact gl_tabIn (off := 513) hC 546 dL_law_33 (by omega) (by omega) (by rw [q]; rfl) (by decide) (gl_k9 hC hx hm hX hbl hbA hL hi7 hS hN)
    · exact gl_tabIn (off := 547) hC 580 dL_law_33 (by omega) (by omega) (by rw [q]; rfl) (by decide) (gl_k10 hC hx hm hX hbl hbA hL hi7 hS hN)
    · exact gl_tabIn (off := 580) hC 613 dL_law_33 (by omega) (by omega) (by rw [q]; rfl) (by decide) (gl_k11 hC hx hm hX hbl hbA hL hi7 hS hN)
    · exact gl_tabIn (off := 623) hC 656 dL_law_33 (by omega) (by omega) (by rw [q]; rfl) (by decide) (gl_k12 hC hx hm hX hbl hbA hL hi7 hS hN)
    · exact gl_tabIn (off := 646) hC 679 dL_law_33 (by omega) (by omega) (by rw [q]; rfl) (by decide) (gl_k13 hC hx hm hX hbl hbA hL hi7 hS hN)
    · exact gl_tabIn (off := 669) hC 702 dL_law_33 (by omega) (by omega) (by rw [q]; rfl) (by decide) (gl_k14 hC hx hm hX hbl hbA hL hi7 hS hN)
    · exact gl_tabIn (off := 692) hC 725 dL_law_33 (by omega) (by omega) (by rw [q]; rfl) (by decide) (gl_k15 hC hx hm hX hbl hbA hL hi7 hS hN)
    · exact gl_tabIn (off := 715) hC 748 dL_law_33 (by omega) (by omega) (by rw [q]; rfl) (by decide) (gl_k16 hC hx hm hX hbl hbA hL hi7 hS hN)
    · exact gl_tabIn (off := 738) hC 771 dL_law_33 (by omega) (by omega) (by rw [q]; rfl) (by decide) (gl_k17 hC hx hm hX hbl hbA hL hi7 hS hN)
end GK
section GK
variable {p : Program} {l : Launch} {e : Env} {R : Room} {s : State} {m : MethodId} {args : Array Value} {below : List Frame} {meth : Method} {c : Code} {D : va_G} {cy : Nat → ClassId} {A : Nat → Prop} {nL : Nat} {Q : State → Prop} {kc ks : Nat} {pc : Nat} {lv : List (Nat × Value)} {st : List Value} {own : String} {cc : ByteArray} {ret2 : Option FieldType}
theorem gl_callL (hC : gc_X p s m args meth c own cc ret2 nL D cy A) {idx : Nat} {y : MethodName} {b : ByteArray} {n2 d2 k2 s2 a : Nat} {w1 : va_W} {x : Nat × va_E} {sh : va_W → Prop} (As : List Value) (hd : decode cc pc = .ok (.invokespecial idx, 3)) (hK : gc_KI own idx y b n2 As.length) (hct : gc_Ct l D cy y b n2 d2 k2 s2 (.ref a :: As) [x] sh) (hrf : (gc_rm d2 k2 s2).frames + 1 ≤ R.frames ∧ 8 + (n2 + 11) + (gc_rm d2 k2 s2).locals ≤ R.locals) (hrm : (st.map fun v => v.category).sum ≤ 8) (h1 : kc + k2 ≤ R.cells) (h2 : ks + s2 ≤ R.slots) (kk : ∀ w, sh w → gc_W p l e R s m args below meth c D A nL Q (w1 ++ w) (kc + k2) (ks + s2) (pc + 3) lv st) : gc_W p l e R s m args below meth c D A nL Q (w1 ++ [x]) kc ks pc lv (As.reverse ++ .ref a :: st) :=
  gc_callI (wr := w1) hC As (List.range' w1.length [x].length) (List.range w1.length) hd hK hct (gl_hR w1 [x] rfl) (gl_hL w1 [x] rfl) (gl_nd _ List.nodup_range) (gl_nd _ (List.nodup_range' 1 (by decide))) (fun i h3 h4 => by
    have h5 := (List.mem_range'_1.mp h4).1
    have h6 := List.mem_range.mp h3
    omega) hrf hrm h1 h2 kk
end GK
section GK
variable {p : Program} {l : Launch} {e : Env} {s : State} {m : MethodId} {args : Array Value} {below : List Frame} {meth : Method} {c : Code} {D : va_G} {cy : Nat → ClassId} {A : Nat → Prop} {Q : State → Prop} {b L : Nat} {xs : Nat → Int32}
set_option maxHeartbeats 400000 in
set_option maxRecDepth 100000 in
theorem gl_start (hC : gc_X p s m args meth c RL cL_law ret 4 D cy A) (hX : va_X b L xs s s.heap) (hbl : b < s.heap.size) (hbA : ¬ A b) (hL : L ≤ 3584) (hE : ∀ (adx adm : Nat → Nat) (I J : Nat → Nat → Int32) (G H : Nat → Nat → UInt64) (i : Nat), gc_W p l e room_1 s m args below meth c D A 4 Q (gz_ws adx cy lx_lay (I, G) ++ gz_ws adm cy lm_lay (J, H)) 600000 7302250 791 [(0, .ref b), (1, .ref (adx 0)), (2, .ref (adm 0)), (3, .int (nI i))] []) : gc_W p l e room_1 s m args below meth c D A 4 Q [] 0 0 0 [(0, .ref b)] [] := by
  refine gc_new hC [.null, .null, .null, .null, .null] dL_law_0 cf_X7 cl_L_7 is_X7 wn_X7 (by decide +kernel) (Nat.le_of_ble_eq_true rfl) (Nat.le_of_ble_eq_true rfl) (fun q0 => ?_)
  refine gc_dup hC dL_law_3 rfl ?_
  refine gl_callL (w1 := []) hC [] dL_law_4 mi_L_9 (cc_X7 q0) ⟨(Nat.le_of_ble_eq_true rfl), (Nat.le_of_ble_eq_true rfl)⟩ (Nat.le_of_ble_eq_true rfl) (Nat.le_of_ble_eq_true rfl) (Nat.le_of_ble_eq_true rfl) (fun w4 hw4 => ?_)
  obtain ⟨adx, I, hx, e0, e1, i1, i2⟩ := hw4
  refine gc_eq (ws2 := gz_ws adx cy lx_lay (I, fun _ _ => 0)) (by rw [e1, List.nil_append]) ?_
  refine gl_astore_n hC dL_law_7 (by decide) ?_
  refine gc_new hC [.int 0, .int 0, .int 0, .int 0, .null, .null, .null, .null, .int 0, .null, .int 0, .int 0, .int 0, .int 0, .int 0, .int 0, .null, .null, .null, .null, .null, .null, .null, .null, .int 0, .null] dL_law_8 cf_X8 cl_L_10 is_X8 wn_X8 (by decide +kernel) (Nat.le_of_ble_eq_true rfl) (Nat.le_of_ble_eq_true rfl) (fun q8 => ?_)
  refine gc_dup hC dL_law_11 rfl ?_
  refine gl_callL (w1 := gz_ws adx cy lx_lay (I, fun _ _ => 0)) hC [] dL_law_12 mi_L_12 (cc_X8 q8) ⟨(Nat.le_of_ble_eq_true rfl), (Nat.le_of_ble_eq_true rfl)⟩ (Nat.le_of_ble_eq_true rfl) (Nat.le_of_ble_eq_true rfl) (Nat.le_of_ble_eq_true rfl) (fun w12 hw12 => ?_)
  obtain ⟨adm, J, hm, e8, e9, m1, m2, m3, m4, m5⟩ := hw12
  refine gc_eq (ws2 := gz_ws adx cy lx_lay (I, fun _ _ => 0) ++ gz_ws adm cy lm_lay (J, fun _ _ => 0)) (by rw [e9]) ?_
  refine gl_astore_n hC dL_law_15 (by decide) ?_
  refine gc_iconst hC 0 dL_law_16 (by decide) ?_
  refine gl_istore_n hC dL_law_17 (by decide) ?_
  refine gl_wide (k := 600000) (n := 7302250) (by exact (Nat.le_of_ble_eq_true rfl)) (by exact (Nat.le_of_ble_eq_true rfl)) ?_
  refine gl_lw [(0, .ref b), (1, .ref q0), (2, .ref q8), (3, .int 0)] ⟨rfl, rfl, rfl, rfl, trivial⟩ ?_
  have h0 := gl_loop hC hx hm hX hbl hbA hL (hE adx adm) L 0 (by omega) (by omega) I J (fun _ _ => 0) (fun _ _ => 0) (gl_S0 i1 i2 m1 m2 m3 m4 m5)
  rw [nI_0, e0, e8] at h0
  exact h0
end GK
theorem gl_nest {args : Array Value} {s : State} (hts : ∀ w ∈ lw_tbl, w.before args s = true) : ∀ w ∈ gz_XN, va_Nw w s := fun w hw => by
  have h1 := hts w (List.mem_filter.mp hw).1
  have h2 := (List.mem_filter.mp hw).2
  refine va_Nw.of ?_ h1
  unfold gz_isN at h2
  split at h2
  · rfl
  · rfl
  · exact absurd h2 (by decide)
theorem gl_known {args : Array Value} {s : State} (hXS : ∀ w ∈ gz_XS, w.before args s = true) : ∃ D : va_G, ∀ (k : Nat) (q : vw_C), vwCl[k]? = some q → u_Kn s q.1 q.2.1 q.2.2 (D.1 k) (D.2 k) := by
  obtain ⟨c0, i0, K0⟩ := u_known (C := RX0) (T := TX0) (N := 6) (n := 6) hXS cf_X0.2.1 (hXS _ is_X0)
  obtain ⟨c1, i1, K1⟩ := u_known (C := RX1) (T := TX1) (N := 6) (n := 6) hXS cf_X1.2.1 (hXS _ is_X1)
  obtain ⟨c2, i2, K2⟩ := u_known (C := RX2) (T := TX2) (N := 12) (n := 12) hXS cf_X2.2.1 (hXS _ is_X2)
  obtain ⟨c3, i3, K3⟩ := u_known (C := RX3) (T := TX3) (N := 4) (n := 4) hXS cf_X3.2.1 (hXS _ is_X3)
  obtain ⟨c4, i4, K4⟩ := u_known (C := RX4) (T := TX4) (N := 1) (n := 1) hXS cf_X4.2.1 (hXS _ is_X4)
  obtain ⟨c5, i5, K5⟩ := u_known (C := RX5) (T := TX5) (N := 1) (n := 1) hXS cf_X5.2.1 (hXS _ is_X5)
  obtain ⟨c6, i6, K6⟩ := u_known (C := RX6) (T := TX6) (N := 6) (n := 6) hXS cf_X6.2.1 (hXS _ is_X6)
  obtain ⟨c7, i7, K7⟩ := u_known (C := RX7) (T := TX7) (N := 5) (n := 5) hXS cf_X7.2.1 (hXS _ is_X7)
  obtain ⟨c8, i8, K8⟩ := u_known (C := RX8) (T := TX8) (N := 26) (n := 26) hXS cf_X8.2.1 (hXS _ is_X8)
  refine ⟨(fun k => match k with | 0 => c0 | 1 => c1 | 2 => c2 | 3 => c3 | 4 => c4 | 5 => c5 | 6 => c6 | 7 => c7 | _ => c8, fun k => match k with | 0 => i0 | 1 => i1 | 2 => i2 | 3 => i3 | 4 => i4 | 5 => i5 | 6 => i6 | 7 => i7 | _ => i8), ?_⟩
  intro k q hq
  match k, hq with
  | 0, hq => cases hq; exact K0
  | 1, hq => cases hq; exact K1
  | 2, hq => cases hq; exact K2
  | 3, hq => cases hq; exact K3
  | 4, hq => cases hq; exact K4
  | 5, hq => cases hq; exact K5
  | 6, hq => cases hq; exact K6
  | 7, hq => cases hq; exact K7
  | 8, hq => cases hq; exact K8
  | k + 9, hq =>
    rw [List.getElem?_eq_none (show 9 ≤ k + 9 by omega)] at hq
    cases hq
theorem gl_types {args : Array Value} {s : State} (hXS : ∀ w ∈ gz_XS, w.before args s = true) : ∃ cy : Nat → ClassId, ∀ (k : Nat) (q : ClassId × FieldType), (gz_ty cy)[k]? = some q → ArrOfT s q.1 q.2 ∧ va_RA s q.1 q.2 := by
  obtain ⟨a0, A0, B0⟩ := gl_arr (ty := .int) (hXS _ ac_I)
  obtain ⟨a1, A1, B1⟩ := gl_arr (ty := .double) (hXS _ ac_D)
  obtain ⟨a2, A2, B2⟩ := gl_arr (ty := .boolean) (hXS _ ac_Z)
  refine ⟨fun k => match k with | 0 => a0 | 1 => a1 | _ => a2, ?_⟩
  intro k q hq
  match k, hq with
  | 0, hq => cases hq; exact ⟨A0, B0⟩
  | 1, hq => cases hq; exact ⟨A1, B1⟩
  | 2, hq => cases hq; exact ⟨A2, B2⟩
  | k + 3, hq =>
    rw [List.getElem?_eq_none (show 3 ≤ k + 3 by omega)] at hq
    cases hq
