/-! THE LAW: rows, the two halves of its world -/
section GC
variable {p : Program} {l : Launch} {e : Env} {R : Room} {s : State} {m : MethodId} {args : Array Value} {below : List Frame} {meth : Method} {c : Code} {D : va_G} {cy : Nat → ClassId} {A : Nat → Prop} {nL : Nat} {Q : State → Prop} {ws : va_W} {kc ks : Nat} {pc : Nat} {lv : List (Nat × Value)} {st : List Value} {own : String} {cc : ByteArray} {ret2 : Option FieldType}
theorem gl_lw (lv2 : List (Nat × Value)) (h : gz_all lv lv2) (kk : gc_W p l e R s m args below meth c D A nL Q ws kc ks pc lv2 st) : gc_W p l e R s m args below meth c D A nL Q ws kc ks pc lv st := fun H locs ls hP hD hS hL => kk H locs ls hP hD hS ⟨hL.1, hL.2.1, fun q hq => hL.2.2 q (gz_all_mem h q hq)⟩
theorem gl_wide {k n : Nat} (h1 : kc ≤ k) (h2 : ks ≤ n) (kk : gc_W p l e R s m args below meth c D A nL Q ws k n pc lv st) : gc_W p l e R s m args below meth c D A nL Q ws kc ks pc lv st := fun H locs ls hP hD hS hL => W.widen h1 h2 (kk H locs ls hP hD hS hL)
theorem gl_iload_n (hC : gc_X p s m args meth c own cc ret2 nL D cy A) {k : Fin 4} {x : Int32} (hd : decode cc pc = .ok (.iload_n k, 1)) (hl : gz_lg lv k = some (.int x)) (kk : gc_W p l e R s m args below meth c D A nL Q ws kc ks (pc + 1) lv (.int x :: st)) : gc_W p l e R s m args below meth c D A nL Q ws kc ks pc lv st := fun H locs ls hP hD hS hL => lv_iload_n hC.1 hC.2.1 hd rfl (gz_hasA hL hl) (kk H locs ls hP hD hS hL)
theorem gl_istore_n (hC : gc_X p s m args meth c own cc ret2 nL D cy A) {k : Fin 4} {x : Int32} (hd : decode cc pc = .ok (.istore_n k, 1)) (hn : (k : Nat) < nL) (kk : gc_W p l e R s m args below meth c D A nL Q ws kc ks (pc + 1) (gz_s1 lv k (.int x)) st) : gc_W p l e R s m args below meth c D A nL Q ws kc ks pc lv (.int x :: st) := fun H locs ls hP hD hS hL => lv_istore_n hC.1 hC.2.1 hd rfl hL hn rfl (fun ls2 hL2 => kk H locs ls2 hP hD hS hL2)
theorem gl_astore_n (hC : gc_X p s m args meth c own cc ret2 nL D cy A) {k : Fin 4} {x : Nat} (hd : decode cc pc = .ok (.astore_n k, 1)) (hn : (k : Nat) < nL) (kk : gc_W p l e R s m args below meth c D A nL Q ws kc ks (pc + 1) (gz_s1 lv k (.ref x)) st) : gc_W p l e R s m args below meth c D A nL Q ws kc ks pc lv (.ref x :: st) := fun H locs ls hP hD hS hL => lv_astore_n hC.1 hC.2.1 hd rfl hL hn rfl (fun ls2 hL2 => kk H locs ls2 hP hD hS hL2)
theorem gl_iadd (hC : gc_X p s m args meth c own cc ret2 nL D cy A) {x y : Int32} (hd : decode cc pc = .ok (.iadd, 1)) (kk : gc_W p l e R s m args below meth c D A nL Q ws kc ks (pc + 1) lv (.int (x + y) :: st)) : gc_W p l e R s m args below meth c D A nL Q ws kc ks pc lv (.int y :: .int x :: st) := fun H locs ls hP hD hS hL => lv_iadd hC.1 hC.2.1 hd (kk H locs ls hP hD hS hL)
theorem gl_isub (hC : gc_X p s m args meth c own cc ret2 nL D cy A) {x y : Int32} (hd : decode cc pc = .ok (.isub, 1)) (kk : gc_W p l e R s m args below meth c D A nL Q ws kc ks (pc + 1) lv (.int (x - y) :: st)) : gc_W p l e R s m args below meth c D A nL Q ws kc ks pc lv (.int y :: .int x :: st) := fun H locs ls hP hD hS hL => lv_isub hC.1 hC.2.1 hd (kk H locs ls hP hD hS hL)
theorem gl_iand (hC : gc_X p s m args meth c own cc ret2 nL D cy A) {x y : Int32} (hd : decode cc pc = .ok (.iand, 1)) (kk : gc_W p l e R s m args below meth c D A nL Q ws kc ks (pc + 1) lv (.int (x &&& y) :: st)) : gc_W p l e R s m args below meth c D A nL Q ws kc ks pc lv (.int y :: .int x :: st) := fun H locs ls hP hD hS hL => lv_iand hC.1 hC.2.1 hd (kk H locs ls hP hD hS hL)
theorem gl_iinc (hC : gc_X p s m args meth c own cc ret2 nL D cy A) {k : Nat} {n : Int} {x : Int32} (v : Int32) (hd : decode cc pc = .ok (.iinc k n, 3)) (hl : gz_lg lv k = some (.int x)) (hv : Int32.ofInt n = v) (hn : k < nL) (kk : gc_W p l e R s m args below meth c D A nL Q ws kc ks (pc + 3) (gz_s1 lv k (.int (x + v))) st) : gc_W p l e R s m args below meth c D A nL Q ws kc ks pc lv st := fun H locs ls hP hD hS hL => by
  obtain ⟨j, hj⟩ := gz_pos (gz_lg_mem hl)
  subst hv
  exact lv_iinc hC.1 hC.2.1 hd hL hj rfl hn rfl (fun ls2 hL2 => kk H locs ls2 hP hD hS hL2)
theorem gl_goto (hC : gc_X p s m args meth c own cc ret2 nL D cy A) {off : Int} (tgt : Nat) (hd : decode cc pc = .ok (.goto off, 3)) (ht : (pc : Int) + off = (tgt : Int)) (kk : gc_W p l e R s m args below meth c D A nL Q ws kc ks tgt lv st) : gc_W p l e R s m args below meth c D A nL Q ws kc ks pc lv st := fun H locs ls hP hD hS hL => lv_goto hC.1 hC.2.1 hd ht (kk H locs ls hP hD hS hL)
theorem gl_icmp_eq (hC : gc_X p s m args meth c own cc ret2 nL D cy A) {x y : Int32} {off : Int} (tgt : Nat) (hd : decode cc pc = .ok (.if_icmp .eq off, 3)) (ht : (pc : Int) + off = (tgt : Int)) (kt : x = y → gc_W p l e R s m args below meth c D A nL Q ws kc ks tgt lv st) (kf : ¬ x = y → gc_W p l e R s m args below meth c D A nL Q ws kc ks (pc + 3) lv st) : gc_W p l e R s m args below meth c D A nL Q ws kc ks pc lv (.int y :: .int x :: st) := fun H locs ls hP hD hS hL => lv_icmp_eq hC.1 hC.2.1 hd ht (fun h => kt h H locs ls hP hD hS hL) (fun h => kf h H locs ls hP hD hS hL)
theorem gl_icmp_gt (hC : gc_X p s m args meth c own cc ret2 nL D cy A) {x y : Int32} {off : Int} (tgt : Nat) (hd : decode cc pc = .ok (.if_icmp .gt off, 3)) (ht : (pc : Int) + off = (tgt : Int)) (kt : y < x → gc_W p l e R s m args below meth c D A nL Q ws kc ks tgt lv st) (kf : ¬ y < x → gc_W p l e R s m args below meth c D A nL Q ws kc ks (pc + 3) lv st) : gc_W p l e R s m args below meth c D A nL Q ws kc ks pc lv (.int y :: .int x :: st) := fun H locs ls hP hD hS hL => lv_icmp_gt hC.1 hC.2.1 hd ht (fun h => kt h H locs ls hP hD hS hL) (fun h => kf h H locs ls hP hD hS hL)
theorem gl_if_eq (hC : gc_X p s m args meth c own cc ret2 nL D cy A) {x : Int32} {off : Int} (tgt : Nat) (hd : decode cc pc = .ok (.ifCond .eq off, 3)) (ht : (pc : Int) + off = (tgt : Int)) (kt : x = 0 → gc_W p l e R s m args below meth c D A nL Q ws kc ks tgt lv st) (kf : ¬ x = 0 → gc_W p l e R s m args below meth c D A nL Q ws kc ks (pc + 3) lv st) : gc_W p l e R s m args below meth c D A nL Q ws kc ks pc lv (.int x :: st) := fun H locs ls hP hD hS hL => lv_if_eq hC.1 hC.2.1 hd ht (fun h => kt h H locs ls hP hD hS hL) (fun h => kf h H locs ls hP hD hS hL)
theorem gl_lcmp (hC : gc_X p s m args meth c own cc ret2 nL D cy A) {x y : Int64} (hd : decode cc pc = .ok (.lcmp, 1)) (kk : gc_W p l e R s m args below meth c D A nL Q ws kc ks (pc + 1) lv (.int (lg_cmp x y) :: st)) : gc_W p l e R s m args below meth c D A nL Q ws kc ks pc lv (.long y :: .long x :: st) := fun H locs ls hP hD hS hL => W.lcmp hC.1 hC.2.1 hd (kk H locs ls hP hD hS hL)
theorem gl_tabIn (hC : gc_X p s m args meth c own cc ret2 nL D cy A) {dflt lo hi : Int} {offs : Array Int} {len : Nat} {x : Int32} {off : Int} (tgt : Nat) (hd : decode cc pc = .ok (.tableswitch dflt lo hi offs, len)) (h1 : ¬ x.toInt < lo) (h2 : ¬ hi < x.toInt) (ho : offs[(x.toInt - lo).toNat]? = some off) (ht : (pc : Int) + off = (tgt : Int)) (kk : gc_W p l e R s m args below meth c D A nL Q ws kc ks tgt lv st) : gc_W p l e R s m args below meth c D A nL Q ws kc ks pc lv (.int x :: st) := fun H locs ls hP hD hS hL => lv_tableIn hC.1 hC.2.1 hd h1 h2 ho ht (kk H locs ls hP hD hS hL)
theorem gl_tabOut (hC : gc_X p s m args meth c own cc ret2 nL D cy A) {dflt lo hi : Int} {offs : Array Int} {len : Nat} {x : Int32} (tgt : Nat) (hd : decode cc pc = .ok (.tableswitch dflt lo hi offs, len)) (h : x.toInt < lo ∨ hi < x.toInt) (ht : (pc : Int) + dflt = (tgt : Int)) (kk : gc_W p l e R s m args below meth c D A nL Q ws kc ks tgt lv st) : gc_W p l e R s m args below meth c D A nL Q ws kc ks pc lv (.int x :: st) := fun H locs ls hP hD hS hL => lv_tableOut hC.1 hC.2.1 hd h ht (kk H locs ls hP hD hS hL)
theorem gl_sld (hC : gc_X p s m args meth c own cc ret2 nL D cy A) {b L : Nat} {xs : Nat → Int32} (hX : va_X b L xs s s.heap) (hbl : b < s.heap.size) (hbA : ¬ A b) {i : Int32} (hin : vp_in i L) (hd : decode cc pc = .ok (.iaload, 1)) (kk : gc_W p l e R s m args below meth c D A nL Q ws kc ks (pc + 1) lv (.int (xs i.toNatClampNeg) :: st)) : gc_W p l e R s m args below meth c D A nL Q ws kc ks pc lv (.int i :: .ref b :: st) := fun H locs ls hP hD hS hL => va_sld hC.1 hC.2.1 hX hbl hbA hS hin hd (kk H locs ls hP hD hS hL)
theorem gl_slen (hC : gc_X p s m args meth c own cc ret2 nL D cy A) {b L : Nat} {xs : Nat → Int32} (hX : va_X b L xs s s.heap) (hbl : b < s.heap.size) (hbA : ¬ A b) (hd : decode cc pc = .ok (.arraylength, 1)) (kk : gc_W p l e R s m args below meth c D A nL Q ws kc ks (pc + 1) lv (.int (Int32.ofNat L) :: st)) : gc_W p l e R s m args below meth c D A nL Q ws kc ks pc lv (.ref b :: st) := fun H locs ls hP hD hS hL => va_slen hC.1 hC.2.1 hX hbl hbA hS hd (kk H locs ls hP hD hS hL)
theorem gl_arg (hC : gc_X p s m args meth c own cc ret2 nL D cy A) {b L : Nat} {xs : Nat → Int32} (hX : va_X b L xs s s.heap) (hbl : b < s.heap.size) (hbA : ¬ A b) (i j : Nat) {k : Int} (h0 : gz_lg lv 0 = some (.ref b)) (h3 : gz_lg lv 3 = some (.int (nI i))) (d0 : decode cc pc = .ok (.aload_n 0, 1)) (d1 : decode cc (pc + 1) = .ok (.iload_n 3, 1)) (d2 : decode cc (pc + 1 + 1) = .ok (.iconst k, 1)) (hk : Int32.ofInt k = nI j) (d3 : decode cc (pc + 1 + 1 + 1) = .ok (.iadd, 1)) (d4 : decode cc (pc + 1 + 1 + 1 + 1) = .ok (.iaload, 1)) (hij : i + j < L) (hL : L ≤ 3584) (kk : gc_W p l e R s m args below meth c D A nL Q ws kc ks (pc + 1 + 1 + 1 + 1 + 1) lv (.int (xs (i + j)) :: st)) : gc_W p l e R s m args below meth c D A nL Q ws kc ks pc lv st := by
  refine gc_aload_n hC d0 h0 ?_
  refine gl_iload_n hC d1 h3 ?_
  refine gc_iconst hC (nI j) d2 hk ?_
  refine gl_iadd hC d3 ?_
  rw [nI_add]
  refine gl_sld hC hX hbl hbA (vp_in_nI hij (by omega)) d4 ?_
  rw [nI_clamp (by omega)]
  exact kk
theorem gl_argB (hC : gc_X p s m args meth c own cc ret2 nL D cy A) {b L : Nat} {xs : Nat → Int32} (hX : va_X b L xs s s.heap) (hbl : b < s.heap.size) (hbA : ¬ A b) (i j : Nat) {k : Int} (h0 : gz_lg lv 0 = some (.ref b)) (h3 : gz_lg lv 3 = some (.int (nI i))) (d0 : decode cc pc = .ok (.aload_n 0, 1)) (d1 : decode cc (pc + 1) = .ok (.iload_n 3, 1)) (d2 : decode cc (pc + 1 + 1) = .ok (.bipush k, 2)) (hk : (Int8.ofInt k).toInt32 = nI j) (d3 : decode cc (pc + 1 + 1 + 2) = .ok (.iadd, 1)) (d4 : decode cc (pc + 1 + 1 + 2 + 1) = .ok (.iaload, 1)) (hij : i + j < L) (hL : L ≤ 3584) (kk : gc_W p l e R s m args below meth c D A nL Q ws kc ks (pc + 1 + 1 + 2 + 1 + 1) lv (.int (xs (i + j)) :: st)) : gc_W p l e R s m args below meth c D A nL Q ws kc ks pc lv st := by
  refine gc_aload_n hC d0 h0 ?_
  refine gl_iload_n hC d1 h3 ?_
  refine gc_bipush hC (nI j) d2 hk ?_
  refine gl_iadd hC d3 ?_
  rw [nI_add]
  refine gl_sld hC hX hbl hbA (vp_in_nI hij (by omega)) d4 ?_
  rw [nI_clamp (by omega)]
  exact kk
theorem gl_nd : ∀ (l2 : List Nat), l2.Nodup → va_nd l2 = true
  | [], _ => rfl
  | a :: t, h => by
    obtain ⟨h1, h2⟩ := List.nodup_cons.mp h
    show (decide (a ∉ t) && va_nd t) = true
    rw [decide_eq_true h1, gl_nd t h2]
    rfl
theorem gl_hL (w1 w2 : va_W) {n : Nat} (h : w1.length = n) : (List.range n).map (fun i => (w1 ++ w2)[i]?) = w1.map some := by
  subst h
  apply List.ext_getElem
  · simp
  · intro i h1 h2
    have h3 : i < w1.length := by simpa using h2
    rw [List.getElem_map, List.getElem_map, List.getElem_range, List.getElem?_append_left h3, List.getElem?_eq_getElem h3]
theorem gl_hR (w1 w2 : va_W) {n : Nat} (h : w1.length = n) : (List.range' n w2.length).map (fun i => (w1 ++ w2)[i]?) = w2.map some := by
  subst h
  apply List.ext_getElem
  · simp
  · intro i h1 h2
    have h3 : i < w2.length := by simpa using h2
    rw [List.getElem_map, List.getElem_map, List.getElem_range', Nat.one_mul, List.getElem?_append_right (by omega), Nat.add_sub_cancel_left, List.getElem?_eq_getElem h3]
theorem gl_call (hC : gc_X p s m args meth c own cc ret2 nL D cy A) {ad : Nat → Nat} {lay : List gz_C} {M : gz_M} {wr : va_W} {idx : Nat} {y : MethodName} {b : ByteArray} {n d2 : Nat} {ret3 : Option FieldType} {post : Option Value → gz_M → Prop} {k ci N : Nat} {fs : List (Option Nat)} {T : u_T} (As : List Value) (hd : decode cc pc = .ok (.invokevirtual idx, 3)) (hK : gz_KV own idx y b n ret3 As.length) (hk : lay[k]? = some (.inl (ci, fs))) (hcl : vwCl[ci]? = some (y.cls, T, N)) (hct : gz_Ct l D ad cy lay y b n ret3 d2 (.ref (ad k) :: As) M post) (hinj : gz_inj ad lay) (hrf : (gz_rm d2).frames + 1 ≤ R.frames ∧ 8 + (n + 11) + (gz_rm d2).locals ≤ R.locals) (hrm : (st.map fun v => v.category).sum ≤ 8) (h1 : kc ≤ R.cells) (h2 : ks ≤ R.slots) (kk : ∀ v M1, post v M1 → gc_W p l e R s m args below meth c D A nL Q (wr ++ gz_ws ad cy lay M1) kc ks (pc + 3) lv (gz_ps v st)) : gc_W p l e R s m args below meth c D A nL Q (gz_ws ad cy lay M ++ wr) kc ks pc lv (As.reverse ++ .ref (ad k) :: st) :=
  gc_callG (wr := wr) hC As (List.range lay.length) (List.range' lay.length wr.length) hd hK hk hcl hct hinj (gl_hL _ _ gz_ws_len) (gl_hR _ _ gz_ws_len) (gl_nd _ (List.nodup_range' 1 (by decide))) (fun i h3 h4 => by
    have h5 := (List.mem_range'_1.mp h3).1
    have h6 := List.mem_range.mp h4
    omega) hrf hrm h1 h2 kk
end GC
theorem gl_cmp0 (x : Int64) : lg_cmp x x = 0 := by
  unfold lg_cmp
  rw [if_neg (by simp), if_pos rfl]
theorem gl_end {L i : Nat} (hL : L ≤ 3584) (hi : i ≤ 3600) : (Int32.ofNat L - 7 < nI i) ↔ L < i + 7 := by
  rw [Int32.lt_iff_toInt_lt, show (Int32.ofNat L - 7).toInt = (L : Int) - 7 from pk_sub_toInt (a := L) (b := 7) (by omega) (by decide), nI_toInt (by omega)]
  omega
theorem gl_arr {U : State} {args : Array Value} {ty : FieldType} (h : (Cond.arrayClass ty).before args U = true) : ∃ cA : ClassId, ArrOfT U cA ty ∧ U.vm.findClass ("[" ++ ty.toString) = some cA := by
  obtain ⟨cA, kA, comp, h1, h2, h3⟩ := Cond.arrayClass_spec h
  exact ⟨cA, fun n z => ⟨fun k h => (by cases h), kA, h2, comp, h3⟩, h1⟩
