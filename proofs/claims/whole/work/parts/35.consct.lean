/-! contracts of constructors -/
def gc_rm (d k n : Nat) : Room := { frames := d, cells := k, slots := n, locals := 40 * d }
def gc_B (D : va_G) (cy : Nat → ClassId) (w0 : va_W) (sz : Nat) : State → Prop := fun U => U.heap.size = sz ∧ va_P D vwCl w0 U.heap ∧ va_K D vwCl (gz_ty cy) U ∧ va_D (fun _ => True) w0 ∧ ∀ w ∈ gz_XN, va_Nw w U
def gc_E (D : va_G) (A : Nat → Prop) (w1 : va_W) : State → Prop := fun t => va_P D vwCl w1 t.heap ∧ va_D A w1
def gc_Ct (l : Launch) (D : va_G) (cy : Nat → ClassId) (y : MethodName) (cc : ByteArray) (nL d k n : Nat) (av : List Value) (w0 : va_W) (sh : va_W → Prop) : Prop :=
  ∀ sz, Met l y (.code y cc nL none :: gz_XS) (gc_rm d k n) (va_Pc av (gc_B D cy w0 sz)) (va_Qv sh (gc_E D (va_A w0 sz)) (va_A w0 sz)) k n (va_A w0 sz)
def gc_KI (own : String) (idx : Nat) (y : MethodName) (b : ByteArray) (n na : Nat) : Prop := Cond.methodLink own idx y ∈ gz_XS ∧ Cond.instanceMethod y ∈ gz_XS ∧ Cond.initialized y.cls ∈ gz_XS ∧ Cond.code y b n none ∈ gz_XS ∧ gz_pl y na ∧ y.name = "<init>"
def gc_KIN (own : String) (idx : Nat) (y : MethodName) (host : String) (b : ByteArray) (n na : Nat) : Prop := Cond.methodLinkNest own idx y host ∈ gz_XN ∧ Cond.instanceMethod y ∈ gz_XS ∧ Cond.initialized y.cls ∈ gz_XS ∧ Cond.code y b n none ∈ gz_XS ∧ gz_pl y na ∧ y.name = "<init>"
section GC
variable {p : Program} {l : Launch} {e : Env} {R : Room} {s : State} {m : MethodId} {args : Array Value} {below : List Frame} {meth : Method} {c : Code} {D : va_G} {cy : Nat → ClassId} {A : Nat → Prop} {nL : Nat} {Q : State → Prop} {ws : va_W} {kc ks : Nat} {pc : Nat} {lv : List (Nat × Value)} {st : List Value} {own : String} {cc : ByteArray} {ret : Option FieldType}
theorem gc_met {y : MethodName} {d k n : Nat} {av : List Value} {w0 : va_W} {sh : va_W → Prop} (hy : plainName y.cls = true) (hin : y.name = "<init>") (hlen : (lg_sl av).length ≤ nL)
    (body : ∀ (p : Program) (e : Env) (s : State) (m : MethodId) (args : Array Value) (below : List Frame) (meth : Method) (c : Code), gc_X p s m args meth c y.cls cc none nL D cy (va_A w0 s.heap.size) → meth.name = "<init>" → gc_W p l e (gc_rm d k n) s m args below meth c D (va_A w0 s.heap.size) nL (MQ below (va_Qv sh (gc_E D (va_A w0 s.heap.size)) (va_A w0 s.heap.size)) args s k n (va_A w0 s.heap.size)) w0 0 0 0 (lv_args 0 av) []) : gc_Ct l D cy y cc nL d k n av w0 sh := by
  intro sz
  refine Met.ofW (cc := cc) (maxL := nL) (ret := none) hy rfl ?_
  intro p e s m args below meth c s₁ B hml hv
  obtain ⟨rfl, rfl, hP, hK, hD, hN⟩ := hv
  have hts := atoms_spec (ws := Cond.code y cc nL none :: gz_XS) B.pre
  have hX : gc_X p s m av.toArray meth c y.cls cc none nL D cy (va_A w0 s.heap.size) := ⟨B.exec, B.bytes, B.returns, hml, findClass_of_methodNamed B.named, fun w hw => hts w (List.mem_cons_of_mem _ hw), hN, hK, B.notSynchronized, fun q h => Or.inr h⟩
  have hl := lv_entry av (n := nL) hlen
  rw [lg_entry_eq]
  exact body p e s m _ below meth c hX ((name_of_methodNamed B.named B.method).1.trans hin) s.heap [] _ hP hD.self va_S.rf hl
theorem gc_vret {sh : va_W → Prop} (hC : gc_X p s m args meth c own cc none nL D cy A) (hd : decode cc pc = .ok (.return_, 1)) (hq : sh ws) : gc_W p l e R s m args below meth c D A nL (MQ below (va_Qv sh (gc_E D A) A) args s kc ks A) ws kc ks pc lv [] := fun H locs ls hP hD hS hL => W.vret hC.1 hC.2.1 hC.2.2.1 (fun t ht hW => ⟨⟨ws, rfl, hq, by rw [ht]; exact hP, hD⟩, hS.F ht⟩) hS.2.2 hd hC.2.2.2.2.2.2.2.2.1
theorem gc_fbl {av : List Value} {w0 : va_W} {sz : Nat} : FrameBlind (va_Pc av (gc_B D cy w0 sz)) := fun a U g mk q => ⟨q.1, q.2.1, q.2.2.1, va_K.moved (u := U) (U := U.calling g mk a) (Vm.Alike.refl U.vm) q.2.2.2.1, q.2.2.2.2.1, fun w hw => by
  have h1 := q.2.2.2.2.2 w hw
  have h2 := (List.mem_filter.mp hw).2
  refine va_Nw.same (u := U) ?_ rfl h1
  unfold gz_isN at h2
  split at h2
  · rfl
  · rfl
  · exact absurd h2 (by decide)⟩
theorem gc_pre {H : Heap} {av : List Value} {w0 : va_W} (hC : gc_X p s m args meth c own cc ret nL D cy A) (hP : va_P D vwCl w0 H) (hD : va_D (fun _ => True) w0) : ∀ U : State, U.heap = H → s.WarmedH U.vm → va_Pc av (gc_B D cy w0 H.size) av.toArray U := fun U hU hW => ⟨rfl, by rw [hU], by rw [hU]; exact hP, va_K.moved hW.alike hC.2.2.2.2.2.2.2.1, hD, gz_nest hW hC.2.2.2.2.2.2.1⟩
theorem gc_callI (hC : gc_X p s m args meth c own cc ret nL D cy A) {idx : Nat} {y : MethodName} {b : ByteArray} {n2 d2 k2 s2 a : Nat} {w0 wr : va_W} {sh : va_W → Prop} (As : List Value) (isC isR : List Nat) (hd : decode cc pc = .ok (.invokespecial idx, 3)) (hK : gc_KI own idx y b n2 As.length) (hct : gc_Ct l D cy y b n2 d2 k2 s2 (.ref a :: As) w0 sh) (hCi : isC.map (fun i => ws[i]?) = w0.map some) (hRi : isR.map (fun i => ws[i]?) = wr.map some) (hnd : va_nd isR = true) (hnc : va_nd isC = true) (hdis : ∀ i ∈ isR, i ∉ isC) (hrf : (gc_rm d2 k2 s2).frames + 1 ≤ R.frames ∧ 8 + (n2 + 11) + (gc_rm d2 k2 s2).locals ≤ R.locals) (hrm : (st.map fun v => v.category).sum ≤ 8) (h1 : kc + k2 ≤ R.cells) (h2 : ks + s2 ≤ R.slots) (kk : ∀ w1, sh w1 → gc_W p l e R s m args below meth c D A nL Q (wr ++ w1) (kc + k2) (ks + s2) (pc + 3) lv st) : gc_W p l e R s m args below meth c D A nL Q ws kc ks pc lv (As.reverse ++ .ref a :: st) := fun H locs ls hP hD hS hL => by
  have hPc : va_P D vwCl w0 H := fun k q hk => by
    have e1 : (isC.map (fun i => ws[i]?))[k]? = some (some q) := by rw [hCi, List.getElem?_map, hk]; rfl
    rw [List.getElem?_map] at e1
    obtain ⟨i, _, hi⟩ := Option.map_eq_some_iff.mp e1
    exact hP i q hi
  have hDc : va_D A w0 := hD.sub isC hnc hCi
  have hFc := va_free (wc := w0) hD hS hC.2.2.2.2.2.2.2.2.2 isC hCi
  refine va_callv (va_runI (As := As) (rest := st) ⟨hC.1, hC.2.1, hC.2.2.2.1, hC.2.2.2.2.1, hC.2.2.2.2.2.1⟩ (hct H.size) (cwI As.length hC.2.2.2.2.2.1 (gz_cons hK.2.2.2.1 gz_good) rfl rfl rfl (hC.2.2.2.2.2.1 _ hK.2.2.1) (hC.2.2.2.2.2.1 _ hK.1) (hC.2.2.2.2.2.1 _ hK.2.1) hK.2.2.2.2.2 hK.2.2.2.2.1 hrf) ⟨gc_fbl, gc_pre hC hPc (hDc.weaken (fun _ _ _ _ => trivial))⟩ rfl rfl hL.1 rfl (lv_room hrm) hd ⟨h1, h2⟩) hS (fun q _ h => hFc q h) hFc (fun u t H1 locs1 ht hvm hw hB hz1 hk1 hS1 => ?_)
  obtain ⟨hP1, hD1⟩ := hB
  rw [ht] at hP1
  obtain ⟨hP2, hD2⟩ := va_join (wr := wr) (w1 := u) hP hD isC isR hCi hRi hnd hdis hk1 hFc hP1 hD1
  exact kk u hw H1 locs1 ls hP2 hD2 hS1 hL
theorem gc_callIN (hC : gc_X p s m args meth c own cc ret nL D cy A) {idx : Nat} {y : MethodName} {b : ByteArray} {n2 d2 k2 s2 a : Nat} {w0 wr : va_W} {sh : va_W → Prop} {host : String} (As : List Value) (isC isR : List Nat) (hd : decode cc pc = .ok (.invokespecial idx, 3)) (hK : gc_KIN own idx y host b n2 As.length) (hct : gc_Ct l D cy y b n2 d2 k2 s2 (.ref a :: As) w0 sh) (hCi : isC.map (fun i => ws[i]?) = w0.map some) (hRi : isR.map (fun i => ws[i]?) = wr.map some) (hnd : va_nd isR = true) (hnc : va_nd isC = true) (hdis : ∀ i ∈ isR, i ∉ isC) (hrf : (gc_rm d2 k2 s2).frames + 1 ≤ R.frames ∧ 8 + (n2 + 11) + (gc_rm d2 k2 s2).locals ≤ R.locals) (hrm : (st.map fun v => v.category).sum ≤ 8) (h1 : kc + k2 ≤ R.cells) (h2 : ks + s2 ≤ R.slots) (kk : ∀ w1, sh w1 → gc_W p l e R s m args below meth c D A nL Q (wr ++ w1) (kc + k2) (ks + s2) (pc + 3) lv st) : gc_W p l e R s m args below meth c D A nL Q ws kc ks pc lv (As.reverse ++ .ref a :: st) := fun H locs ls hP hD hS hL => by
  have hPc : va_P D vwCl w0 H := fun k q hk => by
    have e1 : (isC.map (fun i => ws[i]?))[k]? = some (some q) := by rw [hCi, List.getElem?_map, hk]; rfl
    rw [List.getElem?_map] at e1
    obtain ⟨i, _, hi⟩ := Option.map_eq_some_iff.mp e1
    exact hP i q hi
  have hDc : va_D A w0 := hD.sub isC hnc hCi
  have hFc := va_free (wc := w0) hD hS hC.2.2.2.2.2.2.2.2.2 isC hCi
  refine va_callv (va_runIN (As := As) (rest := st) ⟨hC.1, hC.2.1, hC.2.2.2.1, hC.2.2.2.2.1, hC.2.2.2.2.2.1⟩ (hct H.size) ⟨va_cnB As.length hC.2.2.2.2.2.1 (gz_cons hK.2.2.2.1 gz_good) rfl rfl rfl (hC.2.2.2.2.2.2.1 _ hK.1) (hC.2.2.2.2.2.1 _ hK.2.2.1) hK.2.2.2.2.1 hrf, hK.2.2.2.2.2, hC.2.2.2.2.2.1 _ hK.2.1⟩ ⟨gc_fbl, gc_pre hC hPc (hDc.weaken (fun _ _ _ _ => trivial))⟩ rfl rfl hL.1 rfl (lv_room hrm) hd ⟨h1, h2⟩) hS (fun q _ h => hFc q h) hFc (fun u t H1 locs1 ht hvm hw hB hz1 hk1 hS1 => ?_)
  obtain ⟨hP1, hD1⟩ := hB
  rw [ht] at hP1
  obtain ⟨hP2, hD2⟩ := va_join (wr := wr) (w1 := u) hP hD isC isR hCi hRi hnd hdis hk1 hFc hP1 hD1
  exact kk u hw H1 locs1 ls hP2 hD2 hS1 hL
end GC
