/-! the layouts, cell by cell -/
def gz_mi {α β : Type} (f : Nat → α → β) : Nat → List α → List β
  | _, [] => []
  | k, a :: t => f k a :: gz_mi f (k + 1) t
theorem gz_mi_eq {α β : Type} : ∀ (t : List α) (f : Nat → α → β) (k : Nat), t.mapIdx (fun i => f (i + k)) = gz_mi f k t
  | [], f, k => rfl
  | a :: t, f, k => by
    rw [List.mapIdx_cons]
    show f (0 + k) a :: t.mapIdx (fun i => f (i + 1 + k)) = f k a :: gz_mi f (k + 1) t
    rw [Nat.zero_add, ← gz_mi_eq t f (k + 1)]
    have e : (fun i : Nat => f (i + 1 + k)) = fun i => f (i + (k + 1)) := funext (fun i => by rw [show i + 1 + k = i + (k + 1) by omega])
    rw [e]
theorem gz_mi_0 {α β : Type} (t : List α) (f : Nat → α → β) : t.mapIdx f = gz_mi f 0 t := gz_mi_eq t f 0
def gz_cm (ad : Nat → Nat) (cy : Nat → ClassId) (M : gz_M) (k : Nat) (c : gz_C) : va_E := match c with
  | .inl o => .inr (o.1, gz_mi (fun j f => gz_fv ad M k j f) 0 o.2)
  | .inr a => cond (Nat.beq a.2 1) (.inl (cy 1, a.1, .inr (.inr (.inr (.inl (M.2 k)))))) (.inl (cy a.2, a.1, .inl (M.1 k)))
theorem gz_cm_eq (ad : Nat → Nat) (cy : Nat → ClassId) (M : gz_M) (k : Nat) (c : gz_C) : gz_ce ad cy M k c = gz_cm ad cy M k c := by
  cases c with
  | inl o =>
    show Sum.inr (o.1, gz_fs ad M k o.2) = Sum.inr (o.1, gz_mi (fun j f => gz_fv ad M k j f) 0 o.2)
    unfold gz_fs
    rw [gz_mi_0]
  | inr a => rfl
theorem gz_ws_mi (ad : Nat → Nat) (cy : Nat → ClassId) (lay : List gz_C) (M : gz_M) : gz_ws ad cy lay M = gz_mi (fun k c => (ad k, gz_cm ad cy M k c)) 0 lay := by
  unfold gz_ws
  rw [gz_mi_0]
  congr 1
  funext k c
  rw [gz_cm_eq]
set_option maxRecDepth 100000 in
theorem gz_ws_lm (ad : Nat → Nat) (cy : Nat → ClassId) (M : gz_M) : gz_ws ad cy lm_lay M = [((ad 0), .inr (8, [.int (M.1 0 0), .int (M.1 0 1), .int (M.1 0 2), .int (M.1 0 3), .ref (ad 1), .ref (ad 2), .ref (ad 3), .ref (ad 4), .int (M.1 0 8), .ref (ad 5), .int (M.1 0 10), .int (M.1 0 11), .int (M.1 0 12), .int (M.1 0 13), .int (M.1 0 14), .int (M.1 0 15), .ref (ad 6), .ref (ad 7), .ref (ad 8), .ref (ad 9), .ref (ad 10), .ref (ad 11), .ref (ad 12), .ref (ad 13), .int (M.1 0 24), .ref (ad 14)])), ((ad 1), .inl (cy 0, (32, .inl (M.1 1)))), ((ad 2), .inl (cy 0, (2, .inl (M.1 2)))), ((ad 3), .inl (cy 0, (8, .inl (M.1 3)))), ((ad 4), .inl (cy 0, (3888, .inl (M.1 4)))), ((ad 5), .inl (cy 0, (2, .inl (M.1 5)))), ((ad 6), .inl (cy 0, (3, .inl (M.1 6)))), ((ad 7), .inl (cy 1, (18, .inr (.inr (.inr (.inl (M.2 7))))))), ((ad 8), .inl (cy 1, (40, .inr (.inr (.inr (.inl (M.2 8))))))), ((ad 9), .inl (cy 0, (10, .inl (M.1 9)))), ((ad 10), .inl (cy 0, (10, .inl (M.1 10)))), ((ad 11), .inl (cy 1, (10, .inr (.inr (.inr (.inl (M.2 11))))))), ((ad 12), .inl (cy 0, (10, .inl (M.1 12)))), ((ad 13), .inl (cy 2, (10, .inl (M.1 13)))), ((ad 14), .inl (cy 0, (4, .inl (M.1 14))))] := by
  rw [gz_ws_mi]
  rfl
set_option maxRecDepth 100000 in
theorem gz_ws_lx (ad : Nat → Nat) (cy : Nat → ClassId) (M : gz_M) : gz_ws ad cy lx_lay M = [((ad 0), .inr (7, [.ref (ad 1), .ref (ad 11), .ref (ad 13), .ref (ad 19), .ref (ad 23)])), ((ad 1), .inr (6, [.ref (ad 3), .ref (ad 7), .ref (ad 2), .int (M.1 1 3), .int (M.1 1 4), .int (M.1 1 5)])), ((ad 2), .inl (cy 0, (128, .inl (M.1 2)))), ((ad 3), .inr (1, [.ref (ad 4), .ref (ad 5), .ref (ad 6), .int (M.1 3 3), .int (M.1 3 4), .int (M.1 3 5)])), ((ad 4), .inl (cy 0, (16, .inl (M.1 4)))), ((ad 5), .inl (cy 0, (4, .inl (M.1 5)))), ((ad 6), .inl (cy 0, (3, .inl (M.1 6)))), ((ad 7), .inr (1, [.ref (ad 8), .ref (ad 9), .ref (ad 10), .int (M.1 7 3), .int (M.1 7 4), .int (M.1 7 5)])), ((ad 8), .inl (cy 0, (16, .inl (M.1 8)))), ((ad 9), .inl (cy 0, (4, .inl (M.1 9)))), ((ad 10), .inl (cy 0, (3, .inl (M.1 10)))), ((ad 11), .inr (4, [.ref (ad 12)])), ((ad 12), .inl (cy 0, (3888, .inl (M.1 12)))), ((ad 13), .inr (3, [.ref (ad 1), .ref (ad 14), .ref (ad 16), .ref (ad 18)])), ((ad 14), .inr (5, [.ref (ad 15)])), ((ad 15), .inl (cy 1, (324, .inr (.inr (.inr (.inl (M.2 15))))))), ((ad 16), .inr (5, [.ref (ad 17)])), ((ad 17), .inl (cy 1, (324, .inr (.inr (.inr (.inl (M.2 17))))))), ((ad 18), .inl (cy 1, (16, .inr (.inr (.inr (.inl (M.2 18))))))), ((ad 19), .inr (0, [.ref (ad 1), .ref (ad 20), .ref (ad 22), .int (M.1 19 3), .int (M.1 19 4), .int (M.1 19 5)])), ((ad 20), .inr (5, [.ref (ad 21)])), ((ad 21), .inl (cy 1, (324, .inr (.inr (.inr (.inl (M.2 21))))))), ((ad 22), .inl (cy 1, (40, .inr (.inr (.inr (.inl (M.2 22))))))), ((ad 23), .inr (2, [.ref (ad 1), .ref (ad 24), .int (M.1 23 2), .int (M.1 23 3), .int (M.1 23 4), .int (M.1 23 5), .int (M.1 23 6), .int (M.1 23 7), .int (M.1 23 8), .int (M.1 23 9), .int (M.1 23 10), .int (M.1 23 11)])), ((ad 24), .inl (cy 0, (4, .inl (M.1 24))))] := by
  rw [gz_ws_mi]
  rfl
set_option maxRecDepth 100000 in
set_option maxHeartbeats 4000000 in
theorem lm_start (ad : Nat → Nat) (cy : Nat → ClassId) (a0 : Nat) (a1 : Nat) (a2 : Nat) (a3 : Nat) (a4 : Nat) (a5 : Nat) (a6 : Nat) (a7 : Nat) (a8 : Nat) (a9 : Nat) (a10 : Nat) (a11 : Nat) (a12 : Nat) (a13 : Nat) (a14 : Nat) (e0 : ad 0 = a0) (e1 : ad 1 = a1) (e2 : ad 2 = a2) (e3 : ad 3 = a3) (e4 : ad 4 = a4) (e5 : ad 5 = a5) (e6 : ad 6 = a6) (e7 : ad 7 = a7) (e8 : ad 8 = a8) (e9 : ad 9 = a9) (e10 : ad 10 = a10) (e11 : ad 11 = a11) (e12 : ad 12 = a12) (e13 : ad 13 = a13) (e14 : ad 14 = a14) : gz_ws ad cy lm_lay (gc_J0, fun _ _ => 0) = [(a0, .inr (8, [.int (1), .int (1), .int (2), .int (0), .ref a1, .ref a2, .ref a3, .ref a4, .int (0), .ref a5, .int (0), .int (0), .int (0), .int (0), .int (0), .int (0), .ref a6, .ref a7, .ref a8, .ref a9, .ref a10, .ref a11, .ref a12, .ref a13, .int (0), .ref a14])), (a1, .inl (cy 0, (32, .inl (fun _ => 0)))), (a2, .inl (cy 0, (2, .inl (fun _ => 0)))), (a3, .inl (cy 0, (8, .inl (fun _ => 0)))), (a4, .inl (cy 0, (3888, .inl (fun _ => 0)))), (a5, .inl (cy 0, (2, .inl (fun _ => 0)))), (a6, .inl (cy 0, (3, .inl (fun _ => 0)))), (a7, .inl (cy 1, (18, .inr (.inr (.inr (.inl (fun _ => 0))))))), (a8, .inl (cy 1, (40, .inr (.inr (.inr (.inl (fun _ => 0))))))), (a9, .inl (cy 0, (10, .inl (fun _ => 0)))), (a10, .inl (cy 0, (10, .inl (fun _ => 0)))), (a11, .inl (cy 1, (10, .inr (.inr (.inr (.inl (fun _ => 0))))))), (a12, .inl (cy 0, (10, .inl (fun _ => 0)))), (a13, .inl (cy 2, (10, .inl (fun _ => 0)))), (a14, .inl (cy 0, (4, .inl (fun _ => 0))))] := by
  rw [gz_ws_lm, e0, e1, e2, e3, e4, e5, e6, e7, e8, e9, e10, e11, e12, e13, e14]
  rfl
set_option maxRecDepth 100000 in
set_option maxHeartbeats 4000000 in
theorem lx_start (ad : Nat → Nat) (cy : Nat → ClassId) (a0 : Nat) (a1 : Nat) (a2 : Nat) (a3 : Nat) (a4 : Nat) (a5 : Nat) (a6 : Nat) (a7 : Nat) (a8 : Nat) (a9 : Nat) (a10 : Nat) (a11 : Nat) (a12 : Nat) (a13 : Nat) (a14 : Nat) (a15 : Nat) (a16 : Nat) (a17 : Nat) (a18 : Nat) (a19 : Nat) (a20 : Nat) (a21 : Nat) (a22 : Nat) (a23 : Nat) (a24 : Nat) (e0 : ad 0 = a0) (e1 : ad 1 = a1) (e2 : ad 2 = a2) (e3 : ad 3 = a3) (e4 : ad 4 = a4) (e5 : ad 5 = a5) (e6 : ad 6 = a6) (e7 : ad 7 = a7) (e8 : ad 8 = a8) (e9 : ad 9 = a9) (e10 : ad 10 = a10) (e11 : ad 11 = a11) (e12 : ad 12 = a12) (e13 : ad 13 = a13) (e14 : ad 14 = a14) (e15 : ad 15 = a15) (e16 : ad 16 = a16) (e17 : ad 17 = a17) (e18 : ad 18 = a18) (e19 : ad 19 = a19) (e20 : ad 20 = a20) (e21 : ad 21 = a21) (e22 : ad 22 = a22) (e23 : ad 23 = a23) (e24 : ad 24 = a24) : gz_ws ad cy lx_lay (gc_I0, fun _ _ => 0) = [(a0, .inr (7, [.ref a1, .ref a11, .ref a13, .ref a19, .ref a23])), (a1, .inr (6, [.ref a3, .ref a7, .ref a2, .int (0), .int (0), .int (0)])), (a2, .inl (cy 0, (128, .inl (fun _ => 0)))), (a3, .inr (1, [.ref a4, .ref a5, .ref a6, .int (0), .int (0), .int (0)])), (a4, .inl (cy 0, (16, .inl (fun _ => 0)))), (a5, .inl (cy 0, (4, .inl (fun _ => 0)))), (a6, .inl (cy 0, (3, .inl (fun _ => 0)))), (a7, .inr (1, [.ref a8, .ref a9, .ref a10, .int (0), .int (0), .int (0)])), (a8, .inl (cy 0, (16, .inl (fun _ => 0)))), (a9, .inl (cy 0, (4, .inl (fun _ => 0)))), (a10, .inl (cy 0, (3, .inl (fun _ => 0)))), (a11, .inr (4, [.ref a12])), (a12, .inl (cy 0, (3888, .inl (gc_one)))), (a13, .inr (3, [.ref a1, .ref a14, .ref a16, .ref a18])), (a14, .inr (5, [.ref a15])), (a15, .inl (cy 1, (324, .inr (.inr (.inr (.inl (fun _ => 0))))))), (a16, .inr (5, [.ref a17])), (a17, .inl (cy 1, (324, .inr (.inr (.inr (.inl (fun _ => 0))))))), (a18, .inl (cy 1, (16, .inr (.inr (.inr (.inl (fun _ => 0))))))), (a19, .inr (0, [.ref a1, .ref a20, .ref a22, .int (0), .int (0), .int (0)])), (a20, .inr (5, [.ref a21])), (a21, .inl (cy 1, (324, .inr (.inr (.inr (.inl (fun _ => 0))))))), (a22, .inl (cy 1, (40, .inr (.inr (.inr (.inl (fun _ => 0))))))), (a23, .inr (2, [.ref a1, .ref a24, .int (0), .int (0), .int (0), .int (0), .int (-1), .int (-1), .int (0), .int (-1), .int (0), .int (0)])), (a24, .inl (cy 0, (4, .inl (fun _ => 0))))] := by
  rw [gz_ws_lx, e0, e1, e2, e3, e4, e5, e6, e7, e8, e9, e10, e11, e12, e13, e14, e15, e16, e17, e18, e19, e20, e21, e22, e23, e24]
  rfl
