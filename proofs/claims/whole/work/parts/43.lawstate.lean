/-! THE LAW: what holds between two calls -/
def gl_S (I J : Nat → Nat → Int32) : Prop := ∃ (d0 d1 F : Nat) (w th : Bool) (g : Nat → Int32), cf_ok d0 d1 F ∧ xi_tab d0 d1 F w I ∧ xm_tab d0 d1 F w J ∧ xi_g th g I ∧ xm_g th g J ∧ gv d0 d1 F th g ∧ J 4 = I 12 ∧ wt_ok (I 12)
theorem gl_wt1 {wt : Nat → Int32} (h : ∀ i, i < 3888 → wt i = 1) : wt_ok wt := fun i hi => by
  have e : sh_wn wt i = 1 := by unfold sh_wn; rw [h i hi]; decide
  rw [e, h i hi]
  exact ⟨by decide, by decide⟩
theorem gl_wt_up {wt : Nat → Int32} (h : wt_ok wt) {ix : Nat} {x : Int32} (hx : gz_in x 0 20 = true) : wt_ok (fun b => if b = ix then x else wt b) := fun i hi => by
  by_cases e : i = ix
  · obtain ⟨j, h1, h2, h3⟩ := gz_in_m (a := 0) (b := 20) (by decide) (by decide) hx
    have e2 : sh_wn (fun b => if b = ix then x else wt b) i = j := by
      show (if i = ix then x else wt i).toNatClampNeg = j
      rw [if_pos e, h3, nI_clamp (by omega)]
    rw [e2]
    exact ⟨(if_pos e).trans h3, h2⟩
  · have e2 : sh_wn (fun b => if b = ix then x else wt b) i = sh_wn wt i := by
      show (if i = ix then x else wt i).toNatClampNeg = (wt i).toNatClampNeg
      rw [if_neg e]
    rw [e2]
    exact ⟨(if_neg e).trans (h i hi).1, (h i hi).2⟩
theorem gl_xi_g {th : Bool} {g : Nat → Int32} {I J : Nat → Nat → Int32} (h : xi_g th g I) (e : J 23 = I 23) : xi_g th g J := by
  unfold xi_g
  rw [e]
  exact h
theorem gl_xm_g {th : Bool} {g : Nat → Int32} {I J : Nat → Nat → Int32} (h : xm_g th g I) (e0 : J 0 = I 0) (e5 : J 5 = I 5) : xm_g th g J := by
  unfold xm_g
  rw [e0, e5]
  exact h
theorem gl_S0 {I J : Nat → Nat → Int32} (k1 : xi_tab 1 1 2 false I) (k2 : ∀ o, o = 0 ∨ 10 < o → I o = gc_I0 o) (m1 : xm_tab 1 1 2 false J) (m2 : ∀ i, i < 3888 → J 4 i = 1) (m3 : ∀ i, 3888 ≤ i → J 4 i = gc_J0 4 i) (m4 : J 0 8 = 0) (m5 : ∀ j, j ≠ 8 → J 0 j = gc_J0 0 j) : gl_S I J := by
  have h12 : I 12 = gc_one := k2 12 (Or.inr (by decide))
  have h23 := k2 23 (Or.inr (by decide))
  refine ⟨1, 1, 2, false, false, fun _ => 0, by unfold cf_ok tb_ok; decide, k1, m1, ⟨?_, fun h => absurd h (by decide), ?_, ?_⟩, ⟨m4, fun h => absurd h (by decide), ?_, ?_⟩, fun h => absurd h (by decide), ?_, ?_⟩
  · rw [h23]; rfl
  · rw [h23]; rfl
  · rw [h23]; rfl
  · rw [m5 14 (by decide)]; rfl
  · rw [m5 15 (by decide)]; rfl
  · funext i
    rw [h12]
    by_cases hi : i < 3888
    · rw [m2 i hi]
      exact (if_pos hi).symm
    · rw [m3 i (by omega)]
      show (0 : Int32) = if i < 3888 then 1 else 0
      exact (if_neg hi).symm
  · rw [h12]
    exact gl_wt1 (fun i hi => if_pos hi)
theorem gl_S_keep {I J I1 J1 : Nat → Nat → Int32} (h : gl_S I J) (hI : ∀ o, o ≤ 10 ∨ o = 12 ∨ o = 23 → I1 o = I o) (hJ : ∀ o, o ≤ 6 → J1 o = J o) : gl_S I1 J1 := by
  obtain ⟨d0, d1, F, w, th, g, hO, k1, k2, k3, k4, k5, k6, k7⟩ := h
  exact ⟨d0, d1, F, w, th, g, hO, xi_tab_fr k1 (fun o ho => hI o (Or.inl ho)), xm_tab_fr k2 (fun j _ => congrFun (hJ 0 (by decide)) j) (hJ 1 (by decide)) (hJ 2 (by decide)) (hJ 3 (by decide)), gl_xi_g k3 (hI 23 (Or.inr (Or.inr rfl))), gl_xm_g k4 (hJ 0 (by decide)) (hJ 5 (by decide)), k5, by rw [hJ 4 (by decide), hI 12 (Or.inr (Or.inl rfl))]; exact k6, by rw [hI 12 (Or.inr (Or.inl rfl))]; exact k7⟩
theorem gl_S_an {I J I1 J1 : Nat → Nat → Int32} (h : gl_S I J) (hI : an_of I I1) (hJ : mr_J 0 J J1) : gl_S I1 J1 := gl_S_keep h (fun o ho => hI o (by omega)) (fun o ho => mr_J_o hJ o (by omega) (by omega) (by omega) (by omega))
theorem gl_S_weigh {I J : Nat → Nat → Int32} {ix : Nat} {x : Int32} (h : gl_S I J) (hx : gz_in x 0 20 = true) : gl_S (gz_up I 12 ix x) (gz_up J 4 ix x) := by
  obtain ⟨d0, d1, F, w, th, g, hO, k1, k2, k3, k4, k5, k6, k7⟩ := h
  refine ⟨d0, d1, F, w, th, g, hO, xi_tab_fr k1 (fun o ho => gz_up_ne (by omega)), xm_tab_fr k2 (fun j _ => congrFun (gz_up_ne (by decide)) j) (gz_up_ne (by decide)) (gz_up_ne (by decide)) (gz_up_ne (by decide)), gl_xi_g k3 (gz_up_ne (by decide)), gl_xm_g k4 (gz_up_ne (by decide)) (gz_up_ne (by decide)), k5, ?_, ?_⟩
  · rw [gz_up_eq, gz_up_eq, k6]
  · rw [gz_up_eq]
    exact gl_wt_up k7 hx
theorem gl_S_cups {I J I1 J1 : Nat → Nat → Int32} {a b f : Int32} {w2 : Bool} (h : gl_S I J) (hk : sp_cok a b f = true)
    (i1 : xi_tab a.toNatClampNeg b.toNatClampNeg f.toNatClampNeg w2 I1) (i2 : ∀ i, i < 3888 → I1 12 i = 1) (i3 : I1 23 3 = 0) (i4 : ∀ j, j ≠ 3 → I1 23 j = I 23 j) (i5 : ∀ i, 3888 ≤ i → I1 12 i = I 12 i)
    (j1 : xm_tab a.toNatClampNeg b.toNatClampNeg f.toNatClampNeg w2 J1) (j2 : ∀ i, i < 3888 → J1 4 i = 1) (j3 : ∀ i, 3888 ≤ i → J1 4 i = J 4 i) (j4 : J1 0 8 = 0) (j5 : ∀ j, 4 ≤ j → j ≠ 8 → J1 0 j = J 0 j) : gl_S I1 J1 := by
  obtain ⟨d0, d1, F, w, th, g, hO, k1, k2, k3, k4, k5, k6, k7⟩ := h
  refine ⟨_, _, _, w2, false, g, (sp_cok_t hk).1, i1, j1, ⟨i3, fun q => absurd q (by decide), ?_, ?_⟩, ⟨j4, fun q => absurd q (by decide), ?_, ?_⟩, fun q => absurd q (by decide), ?_, gl_wt1 i2⟩
  · rw [i4 10 (by decide)]; exact k3.2.2.1
  · rw [i4 11 (by decide)]; exact k3.2.2.2
  · rw [j5 14 (by decide) (by decide)]; exact k4.2.2.1
  · rw [j5 15 (by decide) (by decide)]; exact k4.2.2.2
  · funext i
    by_cases hi : i < 3888
    · rw [j2 i hi, i2 i hi]
    · rw [j3 i (by omega), i5 i (by omega), k6]
theorem gl_S_round {I J I1 J1 : Nat → Nat → Int32} {d0 d1 F : Nat} {w : Bool} {g : Nat → Int32} {seed : Int32} (hO : cf_ok d0 d1 F) (k1 : xi_tab d0 d1 F w I) (k6 : J 4 = I 12) (k7 : wt_ok (I 12)) (i1 : xi_g true (sp_gr d0 d1 F seed g) I1) (i2 : ∀ o, o ≠ 23 → o ≠ 24 → I1 o = I o) (j1 : xm_g true (sp_gr d0 d1 F seed g) J1) (j2 : xm_tab d0 d1 F w J1) (j3 : J1 4 = J 4) : gl_S I1 J1 := by
  refine ⟨d0, d1, F, w, true, _, hO, xi_tab_fr k1 (fun o ho => i2 o (by omega) (by omega)), j2, i1, j1, fun _ => ⟨⟨_, dr_h_lt hO.1 seed, rfl⟩, ⟨_, dr_h_lt hO.2.1 _, rfl⟩, ⟨0, by omega, nM_0⟩, Or.inl rfl⟩, ?_, ?_⟩
  · rw [j3, k6, i2 12 (by decide) (by decide)]
  · rw [i2 12 (by decide) (by decide)]
    exact k7
theorem gl_gv_move {d0 d1 F : Nat} {w th : Bool} {g : Nat → Int32} {x : Int32} (hO : cf_ok d0 d1 F) (h : gv d0 d1 F th g) : gv d0 d1 F th (sp_mg d0 d1 F w th g x) := by
  intro ht
  obtain ⟨a1, a2, a3, a4⟩ := h ht
  unfold sp_mg
  cases q1 : sp_bon d0 d1 F x with
  | false => exact ⟨a1, a2, a3, a4⟩
  | true =>
    cases q2 : sp_mgo th g x with
    | false => exact ⟨a1, a2, a3, a4⟩
    | true =>
      by_cases hx : x = -1
      · show (∃ a, a < tb_n d0 F ∧ (if x = -1 then sp_ge (sp_win d0 d1 F w g) g else sp_gb x g) 0 = nI a) ∧ (∃ b, b < tb_n d1 F ∧ (if x = -1 then sp_ge (sp_win d0 d1 F w g) g else sp_gb x g) 1 = nI b) ∧ (∃ la, la < (d0 + d1) * F + 1 ∧ (if x = -1 then sp_ge (sp_win d0 d1 F w g) g else sp_gb x g) 3 = nI la - 1) ∧ _
        rw [if_pos hx]
        exact ⟨a1, a2, a3, Or.inr (Or.inr rfl)⟩
      · show (∃ a, a < tb_n d0 F ∧ (if x = -1 then sp_ge (sp_win d0 d1 F w g) g else sp_gb x g) 0 = nI a) ∧ (∃ b, b < tb_n d1 F ∧ (if x = -1 then sp_ge (sp_win d0 d1 F w g) g else sp_gb x g) 1 = nI b) ∧ (∃ la, la < (d0 + d1) * F + 1 ∧ (if x = -1 then sp_ge (sp_win d0 d1 F w g) g else sp_gb x g) 3 = nI la - 1) ∧ _
        rw [if_neg hx]
        have hg : ¬ g 2 = -1 := by
          unfold sp_mgo at q2
          simp only [Bool.and_eq_true, Bool.not_eq_true', decide_eq_false_iff_not] at q2
          exact q2.1.2
        refine ⟨a1, a2, sp_bon_t hO q1, ?_⟩
        show 1 - g 2 = 0 ∨ 1 - g 2 = 1 ∨ 1 - g 2 = -1
        rcases a4 with q | q | q
        · exact Or.inr (Or.inl (by rw [q]; decide))
        · exact Or.inl (by rw [q]; decide)
        · exact absurd q hg
theorem gl_S_move {I J I1 J1 : Nat → Nat → Int32} {d0 d1 F : Nat} {w th : Bool} {g : Nat → Int32} {x : Int32} (hO : cf_ok d0 d1 F) (k1 : xi_tab d0 d1 F w I) (k5 : gv d0 d1 F th g) (k6 : J 4 = I 12) (k7 : wt_ok (I 12)) (i1 : xi_g th (sp_mg d0 d1 F w th g x) I1) (i2 : ∀ o, o ≠ 23 → I1 o = I o) (j1 : xm_g th (sp_mg d0 d1 F w th g x) J1) (j2 : xm_tab d0 d1 F w J1) (j3 : J1 4 = J 4) : gl_S I1 J1 := by
  refine ⟨d0, d1, F, w, th, _, hO, xi_tab_fr k1 (fun o ho => i2 o (by omega)), j2, i1, j1, gl_gv_move hO k5, ?_, ?_⟩
  · rw [j3, k6, i2 12 (by decide)]
  · rw [i2 12 (by decide)]
    exact k7
theorem gl_wok {d0 d1 F : Nat} {a1 a2 a3 a4 a5 a6 : Int32} (h : sp_wok d0 d1 F a1 a2 a3 a4 a5 a6 = true) : gz_in a6 0 20 = true := by
  unfold sp_wok at h
  simp only [Bool.and_eq_true] at h
  exact h.2.2.2.2.2
