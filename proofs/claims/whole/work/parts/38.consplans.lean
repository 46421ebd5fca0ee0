/-! constructors: plans, the class, the model -/
def lp_lay : List gz_C := [.inr (3888, 0)]
def gc_one : Nat → Int32 := fun j => if j < 3888 then 1 else 0
def gc_I0 : Nat → Nat → Int32 := fun k => if k = 12 then gc_one else if k = 23 then (fun j => if j = 6 then -1 else if j = 7 then -1 else if j = 9 then -1 else 0) else fun _ => 0
def gc_J0 : Nat → Nat → Int32 := fun k => if k = 0 then (fun j => if j = 0 then 1 else if j = 1 then 1 else if j = 2 then 2 else 0) else fun _ => 0
section CT
variable {l : Launch} {D : va_G} {ad : Nat → Nat} {cy : Nat → ClassId}
theorem gc_inj {p : Program} {e : Env} {R : Room} {s : State} {m : MethodId} {args : Array Value} {below : List Frame} {meth : Method} {c : Code} {A : Nat → Prop} {nL : Nat} {Q : State → Prop} {ws : va_W} {kc ks pc : Nat} {lv : List (Nat × Value)} {st : List Value} {lay : List gz_C} (M : gz_M) (isC : List Nat) (hCi : isC.map (fun i => ws[i]?) = (gz_ws ad cy lay M).map some) (hnc : va_nd isC = true) (kk : gz_inj ad lay → gc_W p l e R s m args below meth c D A nL Q ws kc ks pc lv st) : gc_W p l e R s m args below meth c D A nL Q ws kc ks pc lv st := fun H locs ls hP hD hS hL => kk (fun i j hi hj he => (hD.sub isC hnc hCi).1 i j _ _ (gz_ws_at (List.getElem?_eq_getElem hi)) (gz_ws_at (List.getElem?_eq_getElem hj)) he) H locs ls hP hD hS hL
set_option maxHeartbeats 4000000 in
set_option maxRecDepth 100000 in
theorem ct_fill_p (hJ : gz_inj ad lp_lay) (I : Nat → Nat → Int32) (G : Nat → Nat → UInt64) (k n0 : Nat) (hk : lp_lay[k]? = some (.inr (n0, 0))) (hn : n0 < 2147483648) (x : Int32) : gz_Ct l D ad cy lp_lay yJ7_fill_53178 cJ7_fill_53178 4 none 0 [.ref (ad k), .int x] (I, G) (fun v M1 => v = none ∧ M1 = (gz_fi I k n0 x, G)) := by
  refine gz_met (by decide +kernel) hJ (Nat.le_of_ble_eq_true rfl) ?_
  intro p e s m args below meth c hC
  refine gz_iconst hC (0) dJ7_fill_53178_0 (by decide) ?_
  refine gz_istore_n hC dJ7_fill_53178_1 (by decide) ?_
  refine gz_aload_n hC dJ7_fill_53178_2 rfl ?_
  refine gz_alenI hC dJ7_fill_53178_3 hk rfl ?_
  refine gz_istore_n hC dJ7_fill_53178_4 (by decide) ?_
  have lp : ∀ (n i : Nat) (y z : Int32) (hi : i + n = n0) (hy : y = nI i) (hz : z = nI n0), gz_W p l e (gz_rm 0) s m args below meth c D ad cy lp_lay 4 (MQ below (gz_Q D ad cy lp_lay (fun v M1 => v = none ∧ M1 = (gz_fi I k n0 x, G))) args s 0 0 (gz_A ad lp_lay)) (gz_fi I k i x, G) 5 [(0, .ref (ad k)), (1, .int x), (2, .int y), (3, .int z)] [] := by
    intro n
    induction n with
    | zero =>
      intro i y z hi hy hz
      refine gz_iload_n hC dJ7_fill_53178_5 rfl ?_
      refine gz_iload_n hC dJ7_fill_53178_6 rfl ?_
      refine gz_icmp_ge hC 20 dJ7_fill_53178_7 (by decide) (fun c7 => ?_) (fun c7 => ?_)
      · exact gz_vret hC dJ7_fill_53178_20 ⟨rfl, by rw [show n0 = i by omega]⟩
      · exact absurd (by rw [hy, hz]; exact nI_le (by omega) (by omega)) c7
    | succ n ih =>
      intro i y z hi hy hz
      refine gz_iload_n hC dJ7_fill_53178_5 rfl ?_
      refine gz_iload_n hC dJ7_fill_53178_6 rfl ?_
      refine gz_icmp_ge hC 20 dJ7_fill_53178_7 (by decide) (fun c7 => ?_) (fun c7 => ?_)
      · exact absurd c7 (by rw [hy, hz]; exact nI_ge (by omega) (by omega))
      · refine gz_aload_n hC dJ7_fill_53178_10 rfl ?_
        refine gz_iload_n hC dJ7_fill_53178_11 rfl ?_
        refine gz_iload_n hC dJ7_fill_53178_12 rfl ?_
        refine gz_iast hC dJ7_fill_53178_13 hk (by rw [hy]; exact vp_in_nI (by omega) (by omega)) ?_
        refine gz_iinc hC (1) dJ7_fill_53178_14 rfl (by decide) (by decide) ?_
        refine gz_goto hC 5 dJ7_fill_53178_17 (by decide) ?_
        refine gz_lw [(0, .ref (ad k)), (1, .int x), (2, .int (y + 1)), (3, .int z)] ⟨rfl, rfl, rfl, rfl, trivial⟩ ?_
        rw [hy, nI_clamp (by omega), gz_fi1]
        exact ih (i + 1) (nI i + 1) z (by omega) (nI_1 i) hz
  refine gz_lw [(0, .ref (ad k)), (1, .int x), (2, .int 0), (3, .int (nI n0))] ⟨rfl, rfl, rfl, rfl, trivial⟩ ?_
  have h0 := lp n0 0 0 (nI n0) (by omega) rfl rfl
  rw [gz_fi0] at h0
  exact h0
  -- places not laid: [6, 7, 10, 11, 12, 13, 14, 17, 20]
set_option maxHeartbeats 4000000 in
set_option maxRecDepth 100000 in
theorem cc_X4 (h0 : Nat) : gc_Ct l D cy yX4_init cX4_init 1 1 1 3888 [.ref h0] [(h0, .inr (4, [.null]))] (fun w1 => ∃ q8 : Nat, w1 = [(h0, .inr (4, [.ref q8])), (q8, .inl (cy 0, (3888, .inl gc_one)))]) := by
  refine gc_met (by decide +kernel) rfl (Nat.le_of_ble_eq_true rfl) ?_
  intro p e s m args below meth c hC hin
  refine gc_aload_n hC dX4_init_0 rfl ?_
  refine gc_obj hC dX4_init_1 ol_X4_3 oi_I oi_C (Nat.le_of_ble_eq_true rfl) (Nat.le_of_ble_eq_true rfl) rfl ?_
  refine gc_aload_n hC dX4_init_4 rfl ?_
  refine gc_sipush hC (3888) dX4_init_5 (by decide) ?_
  refine gc_newa (j := 0) hC (3888, .inl (fun _ => 0)) 3888 dX4_init_8 rfl rfl ra_I ac_I (fun _ => rfl) (by decide) (by decide) (by decide) (Nat.le_of_ble_eq_true rfl) (Nat.le_of_ble_eq_true rfl) (fun q8 => ?_)
  refine gc_putF (j := 0) hC 0 dX4_init_10 cf_X4 fl_X4_9 rfl (by decide) rfl hin rfl rfl rfl (Nat.le_of_ble_eq_true rfl) ?_
  refine gc_aload_n hC dX4_init_13 rfl ?_
  refine gc_getR (j := 0) hC 0 dX4_init_14 cf_X4 fl_X4_9 rfl rfl (by decide) ?_
  refine gc_iconst hC (1) dX4_init_17 (by decide) ?_
  refine gc_callGS (ad := fun _ => q8) (cy := cy) (lay := lp_lay) (M := (fun _ _ => 0, fun _ _ => 0)) (wr := [(h0, .inr (4, [.ref q8]))]) hC [.ref q8, .int 1] [1] [0] dX4_init_18 ml_X4_15 (ct_fill_p (fun i j hi hj _ => by have h1 : i < 1 := hi; have h2 : j < 1 := hj; omega) (fun _ _ => 0) (fun _ _ => 0) 0 3888 rfl (by decide) 1) (fun i j hi hj _ => by have h1 : i < 1 := hi; have h2 : j < 1 := hj; omega) rfl rfl (by decide) (by decide) (by decide) (Nat.le_of_ble_eq_true rfl) (Nat.le_of_ble_eq_true rfl) (Nat.le_of_ble_eq_true rfl) (fun v M1 h1 => ?_)
  obtain ⟨rfl, rfl⟩ := h1
  exact gc_vret hC dX4_init_21 ⟨_, rfl⟩
end CT
