/-! the model: a move, count, digest -/
theorem sp_win_m {t : Bool} {m2 : Int32} {mv : Nat} (hm : m2 = nI mv) (hmv : mv < 2) : (decide (¬ 0 = mv) == t) = true ∧ cond t (1 - m2) m2 = 0 ∨ (decide (¬ 0 = mv) == t) = false ∧ cond t (1 - m2) m2 = 1 := by
  subst hm
  rcases (show mv = 0 ∨ mv = 1 by omega) with e | e <;> subst e <;> cases t <;> decide
section CT
variable {l : Launch} {D : va_G} {ad : Nat → Nat} {cy : Nat → ClassId}
set_option maxHeartbeats 4000000 in
set_option maxRecDepth 100000 in
theorem ct_X8_move (hJ : gz_inj ad lm_lay) (I : Nat → Nat → Int32) (G : Nat → Nat → UInt64) (d0 d1 F : Nat) (w : Bool) (hO : cf_ok d0 d1 F) (hX : xm_tab d0 d1 F w I) (th : Bool) (g : Nat → Int32) (hg : xm_g th g I) (hv : gv d0 d1 F th g) (x : Int32) : gz_Ct l D ad cy lm_lay yX8_move cX8_move 2 (some .int) 3 [.ref (ad 0), .int x] (I, G) (fun v M1 => ∃ I1, v = some (.int (sp_mv d0 d1 F w th g x)) ∧ M1 = (I1, G) ∧ xm_g th (sp_mg d0 d1 F w th g x) I1 ∧ xm_tab d0 d1 F w I1 ∧ I1 4 = I 4) := by
  refine gz_met (by decide +kernel) hJ (Nat.le_of_ble_eq_true rfl) ?_
  intro p e s m args below meth c hC
  refine gz_iload_n hC dX8_move_0 rfl ?_
  refine gz_iconst hC (-1) dX8_move_1 (by decide) ?_
  have rest16 : sp_bon d0 d1 F x = true → gz_W p l e (gz_rm 3) s m args below meth c D ad cy lm_lay 2 (MQ below (gz_Q D ad cy lm_lay (fun v M1 => ∃ I1, v = some (.int (sp_mv d0 d1 F w th g x)) ∧ M1 = (I1, G) ∧ xm_g th (sp_mg d0 d1 F w th g x) I1 ∧ xm_tab d0 d1 F w I1 ∧ I1 4 = I 4)) args s 0 0 (gz_A ad lm_lay)) (I, G) 16 [(0, .ref (ad 0)), (1, .int x)] [] := by
    intro q1
    refine gz_aload_n hC dX8_move_16 rfl ?_
    refine gz_getI (j := 8) hC dX8_move_17 cf_X8 fl_X8_78 rfl rfl (by decide) ?_
    rw [hg.1]
    refine gz_if_eq hC 43 dX8_move_20 (by decide) (fun c20 => ?_) (fun c20 => ?_)
    · have q2 := gz_b0 c20
      have q4 : sp_mgo th g x = false := by unfold sp_mgo; rw [q2]; rfl
      refine gz_bipush hC (-3) dX8_move_43 (by decide) ?_
      exact gz_iret hC dX8_move_45 ⟨I, gz_v (by unfold sp_mv; rw [q1, q4]; rfl), rfl, by (have e : sp_mg d0 d1 F w th g x = g := (by unfold sp_mg; rw [q1, q4]; rfl)); rw [e]; exact hg, hX, rfl⟩
    · have q5 := gz_b1 c20
      obtain ⟨⟨ha, ha1, ha2⟩, ⟨hb, hb1, hb2⟩, ⟨la, hla, hl2⟩, hm⟩ := hv q5
      obtain ⟨e0, e1, e2, e3, e4, e5⟩ := hg.2.1 q5
      refine gz_aload_n hC dX8_move_23 rfl ?_
      refine gz_getI (j := 10) hC dX8_move_24 cf_X8 fl_X8_185 rfl rfl (by decide) ?_
      refine gz_iconst hC (-1) dX8_move_27 (by decide) ?_
      rw [e2]
      refine gz_icmp_eq hC 43 dX8_move_28 (by decide) (fun c28 => ?_) (fun c28 => ?_)
      · have q4 : sp_mgo th g x = false := by unfold sp_mgo; rw [decide_eq_true c28, Bool.not_true, Bool.and_false]; rfl
        refine gz_bipush hC (-3) dX8_move_43 (by decide) ?_
        exact gz_iret hC dX8_move_45 ⟨I, gz_v (by unfold sp_mv; rw [q1, q4]; rfl), rfl, by (have e : sp_mg d0 d1 F w th g x = g := (by unfold sp_mg; rw [q1, q4]; rfl)); rw [e]; exact hg, hX, rfl⟩
      · have hn2 := c28
        refine gz_aload_n hC dX8_move_31 rfl ?_
        refine gz_aload_n hC dX8_move_32 rfl ?_
        refine gz_getI (j := 11) hC dX8_move_33 cf_X8 fl_X8_188 rfl rfl (by decide) ?_
        refine gz_iload_n hC dX8_move_36 rfl ?_
        refine gz_callV2 hC dX8_move_37 ml_X8_120 rfl rfl (by decide) (by decide) (Nat.le_of_ble_eq_true rfl) (ct_X8_mayMove hJ _ _ d0 d1 F w hX.1 _ _) (fun v37 M37 hp37 => ?_)
        obtain ⟨rfl, rfl⟩ := hp37
        rw [e3, q1, Bool.true_and]
        refine gz_if_ne hC 46 dX8_move_40 (by decide) (fun c40 => ?_) (fun c40 => ?_)
        · have q3 := gz_b1 c40
          have q4 : sp_mgo th g x = true := by unfold sp_mgo; rw [q3, q5, decide_eq_false hn2]; rfl
          refine gz_iload_n hC dX8_move_46 rfl ?_
          refine gz_iconst hC (-1) dX8_move_47 (by decide) ?_
          refine gz_icmp_eq hC 78 dX8_move_48 (by decide) (fun c48 => ?_) (fun c48 => ?_)
          · have q6 : gz_mf (g 3) x = true := by unfold sp_mgo at q4; rw [Bool.and_eq_true] at q4; exact q4.2
            rw [c48] at q6
            have hl0 : ¬ la = 0 := by
              intro q
              subst q
              rw [hl2] at q6
              exact absurd q6 (by decide)
            obtain ⟨k, rfl⟩ : ∃ k, la = k + 1 := ⟨la - 1, by omega⟩
            have hk : g 3 = nI k := by rw [hl2]; exact nI_pred k
            have hwin : sp_win d0 d1 F w g = cond (tb_t d0 d1 F w ha hb k) (1 - g 2) (g 2) := by
              unfold sp_win
              have T := (tb_facts hO.1).2.2.2.2.1
              have U := (tb_facts hO.2.1).2.2.2.2.1
              have B := (cf_bids hO).2
              rw [ha2, hb2, hk, nI_clamp (by omega), nI_clamp (by omega), nI_clamp (by omega)]
            obtain ⟨mv, hmv, hm2⟩ : ∃ mv : Nat, mv < 2 ∧ g 2 = nI mv := by
              rcases hm with q | q | q
              · exact ⟨0, by decide, q⟩
              · exact ⟨1, by decide, q⟩
              · exact absurd q hn2
            have hsw := sp_win_m (t := tb_t d0 d1 F w ha hb k) hm2 hmv
            rw [← hwin] at hsw
            have rest112 : ∀ (wv : Int32) (hwv : wv = sp_win d0 d1 F w g) (hw01 : wv = 0 ∨ wv = 1), gz_W p l e (gz_rm 3) s m args below meth c D ad cy lm_lay 2 (MQ below (gz_Q D ad cy lm_lay (fun v M1 => ∃ I1, v = some (.int (sp_mv d0 d1 F w th g x)) ∧ M1 = (I1, G) ∧ xm_g th (sp_mg d0 d1 F w th g x) I1 ∧ xm_tab d0 d1 F w I1 ∧ I1 4 = I 4)) args s 0 0 (gz_A ad lm_lay)) (I, G) 112 [(0, .ref (ad 0)), (1, .int x)] [.int wv, .ref (ad 0)] := by
              intro wv hwv hw01
              refine gz_put (j := 13) hC dX8_move_112 cf_X8 fl_X8_194 rfl rfl (by decide) rfl rfl rfl ?_
              refine gz_aload_n hC dX8_move_115 rfl ?_
              refine gz_dup hC dX8_move_116 rfl ?_
              refine gz_getI (j := 14) hC dX8_move_117 cf_X8 fl_X8_197 rfl rfl (by decide) ?_
              refine gz_aload_n hC dX8_move_120 rfl ?_
              refine gz_getI (j := 13) hC dX8_move_121 cf_X8 fl_X8_194 rfl rfl (by decide) ?_
              rw [show gz_up I 0 13 wv 0 13 = wv from gz_up_self]
              refine gz_if_ne hC 131 dX8_move_124 (by decide) (fun c124 => ?_) (fun c124 => ?_)
              · have hw1 : wv = 1 := hw01.resolve_left c124
                refine gz_iconst hC (0) dX8_move_131 (by decide) ?_
                refine gz_iadd hC dX8_move_132 ?_
                refine gz_put (j := 14) hC dX8_move_133 cf_X8 fl_X8_197 rfl rfl (by decide) rfl rfl rfl ?_
                refine gz_aload_n hC dX8_move_136 rfl ?_
                refine gz_dup hC dX8_move_137 rfl ?_
                refine gz_getI (j := 15) hC dX8_move_138 cf_X8 fl_X8_200 rfl rfl (by decide) ?_
                refine gz_aload_n hC dX8_move_141 rfl ?_
                refine gz_getI (j := 13) hC dX8_move_142 cf_X8 fl_X8_194 rfl rfl (by decide) ?_
                refine gz_iadd hC dX8_move_145 ?_
                refine gz_put (j := 15) hC dX8_move_146 cf_X8 fl_X8_200 rfl rfl (by decide) rfl rfl rfl ?_
                refine gz_aload_n hC dX8_move_149 rfl ?_
                refine gz_iconst hC (-1) dX8_move_150 (by decide) ?_
                refine gz_put (j := 10) hC dX8_move_151 cf_X8 fl_X8_185 rfl rfl (by decide) rfl rfl rfl ?_
                refine gz_aload_n hC dX8_move_154 rfl ?_
                refine gz_getI (j := 13) hC dX8_move_155 cf_X8 fl_X8_194 rfl rfl (by decide) ?_
                refine gz_iconst hC (1) dX8_move_158 (by decide) ?_
                refine gz_iadd hC dX8_move_159 ?_
                exact gz_iret hC dX8_move_160 ⟨_, gz_v (by unfold sp_mv; rw [q1, q4, if_pos c48, gz_up_oth (by decide), gz_up_oth (by decide), gz_up_oth (by decide), gz_up_self, hwv]; rfl), rfl, by
      have e : sp_mg d0 d1 F w th g x = sp_ge (sp_win d0 d1 F w g) g := by unfold sp_mg; rw [q1, q4, if_pos c48]; rfl
      rw [e, ← hwv, q5]
      exact ⟨by rw [gz_up_oth (by decide), gz_up_oth (by decide), gz_up_oth (by decide), gz_up_oth (by decide)]; rw [← q5]; exact hg.1, fun _ => ⟨by rw [gz_up_at (by decide), gz_up_at (by decide), gz_up_at (by decide), gz_up_at (by decide)]; exact e0, by rw [gz_up_at (by decide), gz_up_at (by decide), gz_up_at (by decide), gz_up_at (by decide)]; exact e1, by rw [gz_up_self]; rfl, by rw [gz_up_oth (by decide), gz_up_oth (by decide), gz_up_oth (by decide), gz_up_oth (by decide)]; exact e3, by rw [gz_up_oth (by decide), gz_up_oth (by decide), gz_up_oth (by decide), gz_up_oth (by decide)]; exact e4, by rw [gz_up_oth (by decide), gz_up_oth (by decide), gz_up_oth (by decide), gz_up_self]; rfl⟩, by rw [gz_up_oth (by decide), gz_up_oth (by decide), gz_up_self]; show gz_up I 0 13 wv 0 14 + _ = (if wv = 0 then g 6 + 1 else g 6); rw [gz_up_oth (by decide), hg.2.2.1]; rw [if_neg c124]; exact Int32.add_zero _, by rw [gz_up_oth (by decide), gz_up_self]; show gz_up (gz_up I 0 13 wv) 0 14 _ 0 15 + _ = (if wv = 0 then g 7 else g 7 + 1); rw [gz_up_oth (by decide), gz_up_oth (by decide), gz_up_oth (by decide), gz_up_self, hg.2.2.2]; rw [if_neg c124, hw1]⟩, xm_tab_up (xm_tab_up (xm_tab_up (xm_tab_up (hX) (by decide)) (by decide)) (by decide)) (by decide), by rw [gz_up_ne (by decide), gz_up_ne (by decide), gz_up_ne (by decide), gz_up_ne (by decide)]⟩
              · refine gz_iconst hC (1) dX8_move_127 (by decide) ?_
                refine gz_goto hC 132 dX8_move_128 (by decide) ?_
                refine gz_iadd hC dX8_move_132 ?_
                refine gz_put (j := 14) hC dX8_move_133 cf_X8 fl_X8_197 rfl rfl (by decide) rfl rfl rfl ?_
                refine gz_aload_n hC dX8_move_136 rfl ?_
                refine gz_dup hC dX8_move_137 rfl ?_
                refine gz_getI (j := 15) hC dX8_move_138 cf_X8 fl_X8_200 rfl rfl (by decide) ?_
                refine gz_aload_n hC dX8_move_141 rfl ?_
                refine gz_getI (j := 13) hC dX8_move_142 cf_X8 fl_X8_194 rfl rfl (by decide) ?_
                refine gz_iadd hC dX8_move_145 ?_
                refine gz_put (j := 15) hC dX8_move_146 cf_X8 fl_X8_200 rfl rfl (by decide) rfl rfl rfl ?_
                refine gz_aload_n hC dX8_move_149 rfl ?_
                refine gz_iconst hC (-1) dX8_move_150 (by decide) ?_
                refine gz_put (j := 10) hC dX8_move_151 cf_X8 fl_X8_185 rfl rfl (by decide) rfl rfl rfl ?_
                refine gz_aload_n hC dX8_move_154 rfl ?_
                refine gz_getI (j := 13) hC dX8_move_155 cf_X8 fl_X8_194 rfl rfl (by decide) ?_
                refine gz_iconst hC (1) dX8_move_158 (by decide) ?_
                refine gz_iadd hC dX8_move_159 ?_
                exact gz_iret hC dX8_move_160 ⟨_, gz_v (by unfold sp_mv; rw [q1, q4, if_pos c48, gz_up_oth (by decide), gz_up_oth (by decide), gz_up_oth (by decide), gz_up_self, hwv]; rfl), rfl, by
      have e : sp_mg d0 d1 F w th g x = sp_ge (sp_win d0 d1 F w g) g := by unfold sp_mg; rw [q1, q4, if_pos c48]; rfl
      rw [e, ← hwv, q5]
      exact ⟨by rw [gz_up_oth (by decide), gz_up_oth (by decide), gz_up_oth (by decide), gz_up_oth (by decide)]; rw [← q5]; exact hg.1, fun _ => ⟨by rw [gz_up_at (by decide), gz_up_at (by decide), gz_up_at (by decide), gz_up_at (by decide)]; exact e0, by rw [gz_up_at (by decide), gz_up_at (by decide), gz_up_at (by decide), gz_up_at (by decide)]; exact e1, by rw [gz_up_self]; rfl, by rw [gz_up_oth (by decide), gz_up_oth (by decide), gz_up_oth (by decide), gz_up_oth (by decide)]; exact e3, by rw [gz_up_oth (by decide), gz_up_oth (by decide), gz_up_oth (by decide), gz_up_oth (by decide)]; exact e4, by rw [gz_up_oth (by decide), gz_up_oth (by decide), gz_up_oth (by decide), gz_up_self]; rfl⟩, by rw [gz_up_oth (by decide), gz_up_oth (by decide), gz_up_self]; show gz_up I 0 13 wv 0 14 + _ = (if wv = 0 then g 6 + 1 else g 6); rw [gz_up_oth (by decide), hg.2.2.1]; rw [if_pos c124], by rw [gz_up_oth (by decide), gz_up_self]; show gz_up (gz_up I 0 13 wv) 0 14 _ 0 15 + _ = (if wv = 0 then g 7 else g 7 + 1); rw [gz_up_oth (by decide), gz_up_oth (by decide), gz_up_oth (by decide), gz_up_self, hg.2.2.2]; rw [if_pos c124, c124]; exact Int32.add_zero _⟩, xm_tab_up (xm_tab_up (xm_tab_up (xm_tab_up (hX) (by decide)) (by decide)) (by decide)) (by decide), by rw [gz_up_ne (by decide), gz_up_ne (by decide), gz_up_ne (by decide), gz_up_ne (by decide)]⟩
            refine gz_aload_n hC dX8_move_78 rfl ?_
            refine gz_aload_n hC dX8_move_79 rfl ?_
            refine gz_iconst hC (0) dX8_move_80 (by decide) ?_
            refine gz_aload_n hC dX8_move_81 rfl ?_
            refine gz_getI (j := 10) hC dX8_move_82 cf_X8 fl_X8_185 rfl rfl (by decide) ?_
            refine gz_aload_n hC dX8_move_85 rfl ?_
            refine gz_getR (j := 9) hC dX8_move_86 cf_X8 fl_X8_32 rfl rfl (by decide) ?_
            refine gz_iconst hC (0) dX8_move_89 (by decide) ?_
            refine gz_iald hC dX8_move_90 rfl (show vp_in (nI 0) 2 from vp_in_nI (by decide) (by decide)) ?_
            rw [show (0 : Int32).toNatClampNeg = 0 from rfl]
            refine gz_aload_n hC dX8_move_91 rfl ?_
            refine gz_getR (j := 9) hC dX8_move_92 cf_X8 fl_X8_32 rfl rfl (by decide) ?_
            refine gz_iconst hC (1) dX8_move_95 (by decide) ?_
            refine gz_iald hC dX8_move_96 rfl (show vp_in (nI 1) 2 from vp_in_nI (by decide) (by decide)) ?_
            rw [show (1 : Int32).toNatClampNeg = 1 from rfl]
            refine gz_aload_n hC dX8_move_97 rfl ?_
            refine gz_getI (j := 11) hC dX8_move_98 cf_X8 fl_X8_188 rfl rfl (by decide) ?_
            refine gz_callV5 hC dX8_move_101 ml_X8_135 rfl rfl (by decide) (by decide) (Nat.le_of_ble_eq_true rfl) (ct_X8_wins hJ _ _ d0 d1 F w hO hX 0 mv ha hb k (by decide) hmv _ _ _ _ _ rfl (e2.trans hm2) (e0.trans ha2) (e1.trans hb2) (e3.trans hk) ha1 hb1 (by omega)) (fun v101 M101 hp101 => ?_)
            obtain ⟨rfl, rfl⟩ := hp101
            refine gz_if_eq hC 111 dX8_move_104 (by decide) (fun c104 => ?_) (fun c104 => ?_)
            · have hb9 := gz_b0 c104
              refine gz_iconst hC (1) dX8_move_111 (by decide) ?_
              refine gz_lw [(0, .ref (ad 0)), (1, .int x)] ⟨rfl, rfl, trivial⟩ ?_
              rcases hsw with ⟨z, _⟩ | ⟨_, z⟩
              · rw [hb9] at z; cases z
              · exact rest112 1 z.symm (Or.inr rfl)
            · have hb9 := gz_b1 c104
              refine gz_iconst hC (0) dX8_move_107 (by decide) ?_
              refine gz_goto hC 112 dX8_move_108 (by decide) ?_
              refine gz_lw [(0, .ref (ad 0)), (1, .int x)] ⟨rfl, rfl, trivial⟩ ?_
              rcases hsw with ⟨_, z⟩ | ⟨z, _⟩
              · exact rest112 0 z.symm (Or.inl rfl)
              · rw [hb9] at z; cases z
          · refine gz_aload_n hC dX8_move_51 rfl ?_
            refine gz_iload_n hC dX8_move_52 rfl ?_
            refine gz_put (j := 11) hC dX8_move_53 cf_X8 fl_X8_188 rfl rfl (by decide) rfl rfl rfl ?_
            refine gz_aload_n hC dX8_move_56 rfl ?_
            refine gz_dup hC dX8_move_57 rfl ?_
            refine gz_getI (j := 12) hC dX8_move_58 cf_X8 fl_X8_191 rfl rfl (by decide) ?_
            refine gz_iconst hC (1) dX8_move_61 (by decide) ?_
            refine gz_iadd hC dX8_move_62 ?_
            refine gz_put (j := 12) hC dX8_move_63 cf_X8 fl_X8_191 rfl rfl (by decide) rfl rfl rfl ?_
            refine gz_aload_n hC dX8_move_66 rfl ?_
            refine gz_iconst hC (1) dX8_move_67 (by decide) ?_
            refine gz_aload_n hC dX8_move_68 rfl ?_
            refine gz_getI (j := 10) hC dX8_move_69 cf_X8 fl_X8_185 rfl rfl (by decide) ?_
            refine gz_isub hC dX8_move_72 ?_
            refine gz_put (j := 10) hC dX8_move_73 cf_X8 fl_X8_185 rfl rfl (by decide) rfl rfl rfl ?_
            refine gz_iconst hC (0) dX8_move_76 (by decide) ?_
            exact gz_iret hC dX8_move_77 ⟨_, gz_v (by unfold sp_mv; rw [q1, q4, if_neg c48]; rfl), rfl, by
      have e : sp_mg d0 d1 F w th g x = sp_gb x g := by unfold sp_mg; rw [q1, q4, if_neg c48]; rfl
      rw [e]
      exact ⟨by rw [gz_up_oth (by decide), gz_up_oth (by decide), gz_up_oth (by decide)]; exact hg.1, fun _ => ⟨by rw [gz_up_at (by decide), gz_up_at (by decide), gz_up_at (by decide)]; exact e0, by rw [gz_up_at (by decide), gz_up_at (by decide), gz_up_at (by decide)]; exact e1, by rw [gz_up_self, gz_up_oth (by decide), gz_up_oth (by decide), e2]; rfl, by rw [gz_up_oth (by decide), gz_up_oth (by decide), gz_up_self]; rfl, by rw [gz_up_oth (by decide), gz_up_self, gz_up_oth (by decide), e4]; rfl, by rw [gz_up_oth (by decide), gz_up_oth (by decide), gz_up_oth (by decide)]; exact e5⟩, by rw [gz_up_oth (by decide), gz_up_oth (by decide), gz_up_oth (by decide)]; exact hg.2.2.1, by rw [gz_up_oth (by decide), gz_up_oth (by decide), gz_up_oth (by decide)]; exact hg.2.2.2⟩, xm_tab_up (xm_tab_up (xm_tab_up (hX) (by decide)) (by decide)) (by decide), by rw [gz_up_ne (by decide), gz_up_ne (by decide), gz_up_ne (by decide)]⟩
        · have q3 := gz_b0 c40
          have q4 : sp_mgo th g x = false := by unfold sp_mgo; rw [q3, Bool.and_false]
          refine gz_bipush hC (-3) dX8_move_43 (by decide) ?_
          exact gz_iret hC dX8_move_45 ⟨I, gz_v (by unfold sp_mv; rw [q1, q4]; rfl), rfl, by (have e : sp_mg d0 d1 F w th g x = g := (by unfold sp_mg; rw [q1, q4]; rfl)); rw [e]; exact hg, hX, rfl⟩
  refine gz_icmp_eq hC 16 dX8_move_2 (by decide) (fun c2 => ?_) (fun c2 => ?_)
  · refine gz_lw [(0, .ref (ad 0)), (1, .int x)] ⟨rfl, rfl, trivial⟩ ?_
    exact rest16 (by unfold sp_bon; rw [decide_eq_true c2]; rfl)
  · refine gz_aload_n hC dX8_move_5 rfl ?_
    refine gz_iload_n hC dX8_move_6 rfl ?_
    refine gz_callV1 hC dX8_move_7 ml_X8_105 rfl rfl (by decide) (by decide) (Nat.le_of_ble_eq_true rfl) (ct_X8_isBid hJ _ _ d0 d1 F w hX.1 _) (fun v7 M7 hp7 => ?_)
    obtain ⟨rfl, rfl⟩ := hp7
    refine gz_if_ne hC 16 dX8_move_10 (by decide) (fun c10 => ?_) (fun c10 => ?_)
    · refine gz_lw [(0, .ref (ad 0)), (1, .int x)] ⟨rfl, rfl, trivial⟩ ?_
      exact rest16 (by unfold sp_bon; rw [gz_b1 c10, Bool.or_true])
    · have q1 : sp_bon d0 d1 F x = false := by unfold sp_bon; rw [decide_eq_false c2, gz_b0 c10]; rfl
      refine gz_bipush hC (-2) dX8_move_13 (by decide) ?_
      exact gz_iret hC dX8_move_15 ⟨I, gz_v (by unfold sp_mv; rw [q1]; rfl), rfl, by (have e : sp_mg d0 d1 F w th g x = g := (by unfold sp_mg; rw [q1]; rfl)); rw [e]; exact hg, hX, rfl⟩
  -- places not laid: [16, 17, 20, 23, 24, 27, 28, 31, 32, 33, 36, 37, 40, 43, 45, 46, 47, 48, 51, 52, 53, 56, 57, 58, 61, 62, 63, 66, 67, 68, 69, 72, 73, 76, 77, 78, 79, 80, 81, 82, 85, 86, 89, 90, 91, 92, 95, 96, 97, 98, 101, 104, 107, 108, 111, 112, 115, 116, 117, 120, 121, 124, 127, 128, 131, 132, 133, 136, 137, 138, 141, 142, 145, 146, 149, 150, 151, 154, 155, 158, 159, 160]
set_option maxHeartbeats 4000000 in
set_option maxRecDepth 100000 in
theorem ct_X8_count (hJ : gz_inj ad lm_lay) (I : Nat → Nat → Int32) (G : Nat → Nat → UInt64) (d0 d1 F : Nat) (w : Bool) (hO : cf_ok d0 d1 F) (hX : xm_tab d0 d1 F w I) (th : Bool) (g : Nat → Int32) (hg : xm_g th g I) (x : Int32) : gz_Ct l D ad cy lm_lay yX8_count cX8_count 2 (some .int) 1 [.ref (ad 0), .int x] (I, G) (fun v M1 => v = some (.int (sp_count d0 d1 F w g x)) ∧ M1 = (I, G)) := by
  refine gz_met (by decide +kernel) hJ (Nat.le_of_ble_eq_true rfl) ?_
  intro p e s m args below meth c hC
  refine gz_iload_n hC dX8_count_0 rfl ?_
  by_cases n0 : x = 0
  · subst n0
    refine gz_tabIn hC 44 dX8_count_1 (by decide) (by decide) rfl (by decide) ?_
    refine gz_aload_n hC dX8_count_44 rfl ?_
    refine gz_getI (j := 0) hC dX8_count_45 cf_X8 fl_X8_7 rfl rfl (by decide) ?_
    exact gz_iret hC dX8_count_48 ⟨gz_v hX.1.1, rfl⟩
  by_cases n1 : x = 1
  · subst n1
    refine gz_tabIn hC 49 dX8_count_1 (by decide) (by decide) rfl (by decide) ?_
    refine gz_aload_n hC dX8_count_49 rfl ?_
    refine gz_getI (j := 1) hC dX8_count_50 cf_X8 fl_X8_13 rfl rfl (by decide) ?_
    exact gz_iret hC dX8_count_53 ⟨gz_v hX.1.2.1, rfl⟩
  by_cases n2 : x = 2
  · subst n2
    refine gz_tabIn hC 54 dX8_count_1 (by decide) (by decide) rfl (by decide) ?_
    refine gz_aload_n hC dX8_count_54 rfl ?_
    refine gz_getI (j := 2) hC dX8_count_55 cf_X8 fl_X8_16 rfl rfl (by decide) ?_
    exact gz_iret hC dX8_count_58 ⟨gz_v hX.1.2.2.1, rfl⟩
  by_cases n3 : x = 3
  · subst n3
    refine gz_tabIn hC 59 dX8_count_1 (by decide) (by decide) rfl (by decide) ?_
    refine gz_aload_n hC dX8_count_59 rfl ?_
    refine gz_getI (j := 3) hC dX8_count_60 cf_X8 fl_X8_86 rfl rfl (by decide) ?_
    refine gz_if_eq hC 70 dX8_count_63 (by decide) (fun c63 => ?_) (fun c63 => ?_)
    · rw [hX.1.2.2.2] at c63
      have q2 := gz_b0 c63
      refine gz_iconst hC (0) dX8_count_70 (by decide) ?_
      exact gz_iret hC dX8_count_71 ⟨gz_v (by rw [show sp_count d0 d1 F w g 3 = gz_b w from rfl, q2]; rfl), rfl⟩
    · rw [hX.1.2.2.2] at c63
      have q2 := gz_b1 c63
      refine gz_iconst hC (1) dX8_count_66 (by decide) ?_
      refine gz_goto hC 71 dX8_count_67 (by decide) ?_
      exact gz_iret hC dX8_count_71 ⟨gz_v (by rw [show sp_count d0 d1 F w g 3 = gz_b w from rfl, q2]; rfl), rfl⟩
  by_cases n4 : x = 4
  · subst n4
    refine gz_tabIn hC 72 dX8_count_1 (by decide) (by decide) rfl (by decide) ?_
    refine gz_aload_n hC dX8_count_72 rfl ?_
    refine gz_callV0 hC dX8_count_73 ml_X8_89 rfl rfl (by decide) (by decide) (Nat.le_of_ble_eq_true rfl) (ct_X8_most hJ _ _ d0 d1 F w hX.1) (fun v73 M73 hp73 => ?_)
    obtain ⟨rfl, rfl⟩ := hp73
    exact gz_iret hC dX8_count_76 ⟨rfl, rfl⟩
  by_cases n5 : x = 5
  · subst n5
    refine gz_tabIn hC 77 dX8_count_1 (by decide) (by decide) rfl (by decide) ?_
    refine gz_aload_n hC dX8_count_77 rfl ?_
    refine gz_getI (j := 14) hC dX8_count_78 cf_X8 fl_X8_197 rfl rfl (by decide) ?_
    exact gz_iret hC dX8_count_81 ⟨gz_v hg.2.2.1, rfl⟩
  by_cases n6 : x = 6
  · subst n6
    refine gz_tabIn hC 82 dX8_count_1 (by decide) (by decide) rfl (by decide) ?_
    refine gz_aload_n hC dX8_count_82 rfl ?_
    refine gz_getI (j := 15) hC dX8_count_83 cf_X8 fl_X8_200 rfl rfl (by decide) ?_
    exact gz_iret hC dX8_count_86 ⟨gz_v hg.2.2.2, rfl⟩
  refine gz_tabOut hC 87 dX8_count_1 ?_ (by decide) ?_
  · have z0 : ¬ x.toInt = 0 := fun q => n0 (Int32.toInt_inj.mp q)
    have z1 : ¬ x.toInt = 1 := fun q => n1 (Int32.toInt_inj.mp q)
    have z2 : ¬ x.toInt = 2 := fun q => n2 (Int32.toInt_inj.mp q)
    have z3 : ¬ x.toInt = 3 := fun q => n3 (Int32.toInt_inj.mp q)
    have z4 : ¬ x.toInt = 4 := fun q => n4 (Int32.toInt_inj.mp q)
    have z5 : ¬ x.toInt = 5 := fun q => n5 (Int32.toInt_inj.mp q)
    have z6 : ¬ x.toInt = 6 := fun q => n6 (Int32.toInt_inj.mp q)
    omega
  · refine gz_bipush hC (-2) dX8_count_87 (by decide) ?_
    exact gz_iret hC dX8_count_89 ⟨gz_v (by unfold sp_count; rw [if_neg n0, if_neg n1, if_neg n2, if_neg n3, if_neg n4, if_neg n5, if_neg n6]), rfl⟩
  -- places not laid: [44, 45, 48, 49, 50, 53, 54, 55, 58, 59, 60, 63, 66, 67, 70, 71, 72, 73, 76, 77, 78, 81, 82, 83, 86, 87, 89]
set_option maxHeartbeats 4000000 in
set_option maxRecDepth 100000 in
theorem ct_X8_digest (hJ : gz_inj ad lm_lay) (I : Nat → Nat → Int32) (G : Nat → Nat → UInt64) (d0 d1 F : Nat) (w : Bool) (hO : cf_ok d0 d1 F) (hX : xm_tab d0 d1 F w I) (th : Bool) (g : Nat → Int32) (hg : xm_g th g I) : gz_Ct l D ad cy lm_lay yX8_digest cX8_digest 8 (some .long) 3 [.ref (ad 0)] (I, G) (fun v M1 => v = some (.long (sp_digest d0 d1 F w (I 4) th g)) ∧ M1 = (I, G)) := by
  have Bd := cf_bids hO
  refine gz_met (by decide +kernel) hJ (Nat.le_of_ble_eq_true rfl) ?_
  intro p e s m args below meth c hC
  refine gz_ldc2l hC dX8_digest_0 kc_X8_203 ?_
  refine gz_lstore_n hC dX8_digest_3 (by decide) ?_
  refine gz_iconst hC (0) dX8_digest_4 (by decide) ?_
  refine gz_istore_n hC dX8_digest_5 (by decide) ?_
  have lp1 : ∀ (n1 i : Nat) (y : Int64) (x3 : Int32) (hi : i + n1 = 7) (hz : x3 = nI i) (hy : y = dg_c (fun k => sp_count d0 d1 F w g (nI k)) i 191), gz_W p l e (gz_rm 3) s m args below meth c D ad cy lm_lay 8 (MQ below (gz_Q D ad cy lm_lay (fun v M1 => v = some (.long (sp_digest d0 d1 F w (I 4) th g)) ∧ M1 = (I, G))) args s 0 0 (gz_A ad lm_lay)) (I, G) 6 [(0, .ref (ad 0)), (1, .long y), (3, .int x3)] [] := by
    intro n1
    induction n1 with
    | zero =>
      intro i y x3 hi hz hy
      refine gz_iload_n hC dX8_digest_6 rfl ?_
      refine gz_bipush hC (7) dX8_digest_7 (by decide) ?_
      refine gz_icmp_ge hC 31 dX8_digest_9 (by decide) (fun c9 => ?_) (fun c9 => ?_)
      · refine gz_iconst hC (0) dX8_digest_31 (by decide) ?_
        refine gz_istore_n hC dX8_digest_32 (by decide) ?_
        have lp2 : ∀ (n2 i : Nat) (y : Int64) (x3 : Int32) (hi : i + n2 = 4) (hz : x3 = nI i) (hy : y = dg_4 (I 4) d0 d1 F i (dg_c (fun k => sp_count d0 d1 F w g (nI k)) 7 191)), gz_W p l e (gz_rm 3) s m args below meth c D ad cy lm_lay 8 (MQ below (gz_Q D ad cy lm_lay (fun v M1 => v = some (.long (sp_digest d0 d1 F w (I 4) th g)) ∧ M1 = (I, G))) args s 0 0 (gz_A ad lm_lay)) (I, G) 33 [(0, .ref (ad 0)), (1, .long y), (3, .int x3)] [] := by
          intro n2
          induction n2 with
          | zero =>
            intro i y x3 hi hz hy
            refine gz_iload_n hC dX8_digest_33 rfl ?_
            refine gz_iconst hC (4) dX8_digest_34 (by decide) ?_
            refine gz_icmp_ge hC 157 dX8_digest_35 (by decide) (fun c35 => ?_) (fun c35 => ?_)
            · refine gz_aload_n hC dX8_digest_157 rfl ?_
              refine gz_getI (j := 8) hC dX8_digest_158 cf_X8 fl_X8_78 rfl rfl (by decide) ?_
              refine gz_if_eq hC 218 dX8_digest_161 (by decide) (fun c161 => ?_) (fun c161 => ?_)
              · rw [hg.1] at c161
                have q1 := gz_b0 c161
                refine gz_lload_n hC dX8_digest_218 rfl ?_
                exact gz_lret hC dX8_digest_219 ⟨by unfold sp_digest; rw [q1, hy, show i = 4 by omega]; rfl, rfl⟩
              · rw [hg.1] at c161
                have q1 := gz_b1 c161
                refine gz_iconst hC (0) dX8_digest_164 (by decide) ?_
                refine gz_istore_n hC dX8_digest_165 (by decide) ?_
                have lp4 : ∀ (n i : Nat) (y : Int64) (x3 : Int32) (hi : i + n = 4) (hz : x3 = nI i) (hy : y = dg_c (fun k => g (2 + k)) i (dg_4 (I 4) d0 d1 F 4 (dg_c (fun k => sp_count d0 d1 F w g (nI k)) 7 191))), gz_W p l e (gz_rm 3) s m args below meth c D ad cy lm_lay 8 (MQ below (gz_Q D ad cy lm_lay (fun v M1 => v = some (.long (sp_digest d0 d1 F w (I 4) th g)) ∧ M1 = (I, G))) args s 0 0 (gz_A ad lm_lay)) (I, G) 166 [(0, .ref (ad 0)), (1, .long y), (3, .int x3)] [] := by
                  intro n
                  induction n with
                  | zero =>
                    intro i y x3 hi hz hy
                    refine gz_iload_n hC dX8_digest_166 rfl ?_
                    refine gz_iconst hC (4) dX8_digest_167 (by decide) ?_
                    refine gz_icmp_ge hC 190 dX8_digest_168 (by decide) (fun c168 => ?_) (fun c168 => ?_)
                    · refine gz_ldc2l hC dX8_digest_190 kc_X8_205 ?_
                      refine gz_lload_n hC dX8_digest_193 rfl ?_
                      refine gz_lmul hC dX8_digest_194 ?_
                      refine gz_aload_n hC dX8_digest_195 rfl ?_
                      refine gz_getR (j := 9) hC dX8_digest_196 cf_X8 fl_X8_32 rfl rfl (by decide) ?_
                      refine gz_iconst hC (0) dX8_digest_199 (by decide) ?_
                      refine gz_iald hC dX8_digest_200 rfl (show vp_in (nI 0) 2 from vp_in_nI (by decide) (by decide)) ?_
                      rw [show (0 : Int32).toNatClampNeg = 0 from rfl]
                      refine gz_i2l hC dX8_digest_201 ?_
                      refine gz_ladd hC dX8_digest_202 ?_
                      refine gz_lstore_n hC dX8_digest_203 (by decide) ?_
                      refine gz_ldc2l hC dX8_digest_204 kc_X8_205 ?_
                      refine gz_lload_n hC dX8_digest_207 rfl ?_
                      refine gz_lmul hC dX8_digest_208 ?_
                      refine gz_aload_n hC dX8_digest_209 rfl ?_
                      refine gz_getR (j := 9) hC dX8_digest_210 cf_X8 fl_X8_32 rfl rfl (by decide) ?_
                      refine gz_iconst hC (1) dX8_digest_213 (by decide) ?_
                      refine gz_iald hC dX8_digest_214 rfl (show vp_in (nI 1) 2 from vp_in_nI (by decide) (by decide)) ?_
                      rw [show (1 : Int32).toNatClampNeg = 1 from rfl]
                      refine gz_i2l hC dX8_digest_215 ?_
                      refine gz_ladd hC dX8_digest_216 ?_
                      refine gz_lstore_n hC dX8_digest_217 (by decide) ?_
                      refine gz_lload_n hC dX8_digest_218 rfl ?_
                      exact gz_lret hC dX8_digest_219 ⟨by unfold sp_digest; rw [q1, (hg.2.1 q1).1, (hg.2.1 q1).2.1, hy, show i = 4 by omega]; rfl, rfl⟩
                    · exact absurd (gz_ile gz_n4 hz (by omega) (by omega)) c168
                  | succ n ih =>
                    intro i y x3 hi hz hy
                    refine gz_iload_n hC dX8_digest_166 rfl ?_
                    refine gz_iconst hC (4) dX8_digest_167 (by decide) ?_
                    refine gz_icmp_ge hC 190 dX8_digest_168 (by decide) (fun c168 => ?_) (fun c168 => ?_)
                    · exact absurd c168 (gz_inle gz_n4 hz (by omega) (by omega))
                    · refine gz_ldc2l hC dX8_digest_171 kc_X8_205 ?_
                      refine gz_lload_n hC dX8_digest_174 rfl ?_
                      refine gz_lmul hC dX8_digest_175 ?_
                      refine gz_aload_n hC dX8_digest_176 rfl ?_
                      refine gz_iload_n hC dX8_digest_177 rfl ?_
                      refine gz_callV1 hC dX8_digest_178 ml_X8_210 rfl rfl (by decide) (by decide) (Nat.le_of_ble_eq_true rfl) (ct_X8_about hJ _ _ th g hg _) (fun v178 M178 hp178 => ?_)
                      obtain ⟨rfl, rfl⟩ := hp178
                      rw [show sp_about th g x3 = g (2 + i) by unfold sp_about; rw [hz, nI_clamp (by omega), q1, show gz_in (nI i) 0 3 = true by rcases (show i = 0 ∨ i = 1 ∨ i = 2 ∨ i = 3 by omega) with e | e | e | e <;> subst e <;> decide]; rfl]
                      refine gz_i2l hC dX8_digest_181 ?_
                      refine gz_ladd hC dX8_digest_182 ?_
                      refine gz_lstore_n hC dX8_digest_183 (by decide) ?_
                      refine gz_iinc hC (1) dX8_digest_184 rfl (by decide) (by decide) ?_
                      refine gz_goto hC 166 dX8_digest_187 (by decide) ?_
                      refine gz_lw [(0, .ref (ad 0)), (1, .long _), (3, .int (x3 + 1))] ⟨rfl, rfl, rfl, trivial⟩ ?_
                      exact ih (i + 1) _ _ (by omega) (gz_i1 hz) (by rw [hy]; rfl)
                exact gz_lw [(0, .ref (ad 0)), (1, .long y), (3, .int 0)] ⟨rfl, rfl, rfl, trivial⟩ (lp4 4 0 y 0 (by omega) rfl (by rw [hy, show i = 4 by omega]; rfl))
            · exact absurd (gz_ile gz_n4 hz (by omega) (by omega)) c35
          | succ n2 ih2 =>
            intro i y x3 hi hz hy
            refine gz_iload_n hC dX8_digest_33 rfl ?_
            refine gz_iconst hC (4) dX8_digest_34 (by decide) ?_
            refine gz_icmp_ge hC 157 dX8_digest_35 (by decide) (fun c35 => ?_) (fun c35 => ?_)
            · exact absurd c35 (gz_inle gz_n4 hz (by omega) (by omega))
            · refine gz_iconst hC (0) dX8_digest_38 (by decide) ?_
              refine gz_istore hC dX8_digest_39 (by decide) ?_
              have lp3 : ∀ (n3 pq : Nat) (y : Int64) (x4 : Int32) (hi3 : pq + n3 = 2) (hx4 : x4 = nI pq) (hy : y = dg_2 (I 4) d0 d1 F i pq (dg_4 (I 4) d0 d1 F i (dg_c (fun k => sp_count d0 d1 F w g (nI k)) 7 191))), gz_W p l e (gz_rm 3) s m args below meth c D ad cy lm_lay 8 (MQ below (gz_Q D ad cy lm_lay (fun v M1 => v = some (.long (sp_digest d0 d1 F w (I 4) th g)) ∧ M1 = (I, G))) args s 0 0 (gz_A ad lm_lay)) (I, G) 41 [(0, .ref (ad 0)), (1, .long y), (3, .int x3), (4, .int x4)] [] := by
                intro n3
                induction n3 with
                | zero =>
                  intro pq y x4 hi3 hx4 hy
                  refine gz_iload hC dX8_digest_41 rfl ?_
                  refine gz_iconst hC (2) dX8_digest_43 (by decide) ?_
                  refine gz_icmp_ge hC 151 dX8_digest_44 (by decide) (fun c44 => ?_) (fun c44 => ?_)
                  · refine gz_iinc hC (1) dX8_digest_151 rfl (by decide) (by decide) ?_
                    refine gz_goto hC 33 dX8_digest_154 (by decide) ?_
                    refine gz_lw [(0, .ref (ad 0)), (1, .long y), (3, .int (x3 + 1))] ⟨rfl, rfl, rfl, trivial⟩ ?_
                    exact ih2 (i + 1) _ _ (by omega) (gz_i1 hz) (by rw [hy, show pq = 2 by omega]; rfl)
                  · exact absurd (gz_ile gz_n2 hx4 (by omega) (by omega)) c44
                | succ n3 ih3 =>
                  intro pq y x4 hi3 hx4 hy
                  refine gz_iload hC dX8_digest_41 rfl ?_
                  refine gz_iconst hC (2) dX8_digest_43 (by decide) ?_
                  refine gz_icmp_ge hC 151 dX8_digest_44 (by decide) (fun c44 => ?_) (fun c44 => ?_)
                  · exact absurd c44 (gz_inle gz_n2 hx4 (by omega) (by omega))
                  · refine gz_iconst hC (0) dX8_digest_47 (by decide) ?_
                    refine gz_istore hC dX8_digest_48 (by decide) ?_
                    have Tq := (tb_facts (cf_okP hO (show pq < 2 by omega))).2.2.2.2.1
                    have lp5 : ∀ (n5 h : Nat) (y : Int64) (x5 : Int32) (hi5 : h + n5 = tb_n (tb_d d0 d1 pq) F) (hx5 : x5 = nI h) (hy : y = dg_h (I 4) i (tb_d d0 d1 pq) ((d0 + d1) * F) h (dg_2 (I 4) d0 d1 F i pq (dg_4 (I 4) d0 d1 F i (dg_c (fun k => sp_count d0 d1 F w g (nI k)) 7 191)))), gz_W p l e (gz_rm 3) s m args below meth c D ad cy lm_lay 8 (MQ below (gz_Q D ad cy lm_lay (fun v M1 => v = some (.long (sp_digest d0 d1 F w (I 4) th g)) ∧ M1 = (I, G))) args s 0 0 (gz_A ad lm_lay)) (I, G) 50 [(0, .ref (ad 0)), (1, .long y), (3, .int x3), (4, .int x4), (5, .int x5)] [] := by
                      intro n5
                      induction n5 with
                      | zero =>
                        intro h y x5 hi5 hx5 hy
                        refine gz_iload hC dX8_digest_50 rfl ?_
                        refine gz_aload_n hC dX8_digest_52 rfl ?_
                        refine gz_getR (j := 5) hC dX8_digest_53 cf_X8 fl_X8_23 rfl rfl (by decide) ?_
                        refine gz_iload hC dX8_digest_56 rfl ?_
                        refine gz_iald hC dX8_digest_58 rfl (by rw [hx4]; exact vp_in_nI (by omega) (by decide)) ?_
                        rw [show x4.toNatClampNeg = pq by rw [hx4, nI_clamp (by omega)], (xm_hP hX (show pq < 2 by omega)).1]
                        refine gz_icmp_ge hC 145 dX8_digest_59 (by decide) (fun c59 => ?_) (fun c59 => ?_)
                        · refine gz_iinc hC (1) dX8_digest_145 rfl (by decide) (by decide) ?_
                          refine gz_goto hC 41 dX8_digest_148 (by decide) ?_
                          refine gz_lw [(0, .ref (ad 0)), (1, .long y), (3, .int x3), (4, .int (x4 + 1))] ⟨rfl, rfl, rfl, rfl, trivial⟩ ?_
                          exact ih3 (pq + 1) _ _ (by omega) (gz_i1 hx4) (by rw [hy, show h = tb_n (tb_d d0 d1 pq) F by omega]; rfl)
                        · exact absurd (gz_ile rfl hx5 (by omega) (by omega)) c59
                      | succ n5 ih5 =>
                        intro h y x5 hi5 hx5 hy
                        refine gz_iload hC dX8_digest_50 rfl ?_
                        refine gz_aload_n hC dX8_digest_52 rfl ?_
                        refine gz_getR (j := 5) hC dX8_digest_53 cf_X8 fl_X8_23 rfl rfl (by decide) ?_
                        refine gz_iload hC dX8_digest_56 rfl ?_
                        refine gz_iald hC dX8_digest_58 rfl (by rw [hx4]; exact vp_in_nI (by omega) (by decide)) ?_
                        rw [show x4.toNatClampNeg = pq by rw [hx4, nI_clamp (by omega)], (xm_hP hX (show pq < 2 by omega)).1]
                        refine gz_icmp_ge hC 145 dX8_digest_59 (by decide) (fun c59 => ?_) (fun c59 => ?_)
                        · exact absurd c59 (gz_inle rfl hx5 (by omega) (by omega))
                        · refine gz_iconst hC (-1) dX8_digest_62 (by decide) ?_
                          refine gz_istore hC dX8_digest_63 (by decide) ?_
                          have lp6 : ∀ (n6 la : Nat) (y : Int64) (x6 : Int32) (hi6 : la + n6 = (d0 + d1) * F + 1) (hx6 : x6 = nI la - 1) (hy : y = dg_l (I 4) i (tb_d d0 d1 pq) h ((d0 + d1) * F) la (dg_h (I 4) i (tb_d d0 d1 pq) ((d0 + d1) * F) h (dg_2 (I 4) d0 d1 F i pq (dg_4 (I 4) d0 d1 F i (dg_c (fun k => sp_count d0 d1 F w g (nI k)) 7 191))))), gz_W p l e (gz_rm 3) s m args below meth c D ad cy lm_lay 8 (MQ below (gz_Q D ad cy lm_lay (fun v M1 => v = some (.long (sp_digest d0 d1 F w (I 4) th g)) ∧ M1 = (I, G))) args s 0 0 (gz_A ad lm_lay)) (I, G) 65 [(0, .ref (ad 0)), (1, .long y), (3, .int x3), (4, .int x4), (5, .int x5), (6, .int x6)] [] := by
                            intro n6
                            induction n6 with
                            | zero =>
                              intro la y x6 hi6 hx6 hy
                              refine gz_iload hC dX8_digest_65 rfl ?_
                              refine gz_aload_n hC dX8_digest_67 rfl ?_
                              refine gz_callV0 hC dX8_digest_68 ml_X8_89 rfl rfl (by decide) (by decide) (Nat.le_of_ble_eq_true rfl) (ct_X8_most hJ _ _ d0 d1 F w hX.1) (fun v68 M68 hp68 => ?_)
                              obtain ⟨rfl, rfl⟩ := hp68
                              refine gz_icmp_ge hC 139 dX8_digest_71 (by decide) (fun c71 => ?_) (fun c71 => ?_)
                              · refine gz_iinc hC (1) dX8_digest_139 rfl (by decide) (by decide) ?_
                                refine gz_goto hC 50 dX8_digest_142 (by decide) ?_
                                refine gz_lw [(0, .ref (ad 0)), (1, .long y), (3, .int x3), (4, .int x4), (5, .int (x5 + 1))] ⟨rfl, rfl, rfl, rfl, rfl, trivial⟩ ?_
                                exact ih5 (h + 1) _ _ (by omega) (gz_i1 hx5) (by rw [hy, show la = (d0 + d1) * F + 1 by omega]; rfl)
                              · exact absurd (nM_ge hx6 rfl (by omega) (by omega) (by omega)) c71
                            | succ n6 ih6 =>
                              intro la y x6 hi6 hx6 hy
                              refine gz_iload hC dX8_digest_65 rfl ?_
                              refine gz_aload_n hC dX8_digest_67 rfl ?_
                              refine gz_callV0 hC dX8_digest_68 ml_X8_89 rfl rfl (by decide) (by decide) (Nat.le_of_ble_eq_true rfl) (ct_X8_most hJ _ _ d0 d1 F w hX.1) (fun v68 M68 hp68 => ?_)
                              obtain ⟨rfl, rfl⟩ := hp68
                              refine gz_icmp_ge hC 139 dX8_digest_71 (by decide) (fun c71 => ?_) (fun c71 => ?_)
                              · exact absurd c71 (nM_nge hx6 rfl (by omega) (by omega) (by omega))
                              · refine gz_iconst hC (-1) dX8_digest_74 (by decide) ?_
                                refine gz_istore hC dX8_digest_75 (by decide) ?_
                                have lp7 : ∀ (n7 mq : Nat) (y : Int64) (x7 : Int32) (hi7 : mq + n7 = (d0 + d1) * F + 1) (hx7 : x7 = nI mq - 1) (hy : y = dg_m (I 4) i (tb_d d0 d1 pq) h la mq (dg_l (I 4) i (tb_d d0 d1 pq) h ((d0 + d1) * F) la (dg_h (I 4) i (tb_d d0 d1 pq) ((d0 + d1) * F) h (dg_2 (I 4) d0 d1 F i pq (dg_4 (I 4) d0 d1 F i (dg_c (fun k => sp_count d0 d1 F w g (nI k)) 7 191)))))), gz_W p l e (gz_rm 3) s m args below meth c D ad cy lm_lay 8 (MQ below (gz_Q D ad cy lm_lay (fun v M1 => v = some (.long (sp_digest d0 d1 F w (I 4) th g)) ∧ M1 = (I, G))) args s 0 0 (gz_A ad lm_lay)) (I, G) 77 [(0, .ref (ad 0)), (1, .long y), (3, .int x3), (4, .int x4), (5, .int x5), (6, .int x6), (7, .int x7)] [] := by
                                  intro n7
                                  induction n7 with
                                  | zero =>
                                    intro mq y x7 hi7 hx7 hy
                                    refine gz_iload hC dX8_digest_77 rfl ?_
                                    refine gz_aload_n hC dX8_digest_79 rfl ?_
                                    refine gz_callV0 hC dX8_digest_80 ml_X8_89 rfl rfl (by decide) (by decide) (Nat.le_of_ble_eq_true rfl) (ct_X8_most hJ _ _ d0 d1 F w hX.1) (fun v80 M80 hp80 => ?_)
                                    obtain ⟨rfl, rfl⟩ := hp80
                                    refine gz_icmp_ge hC 133 dX8_digest_83 (by decide) (fun c83 => ?_) (fun c83 => ?_)
                                    · refine gz_iinc hC (1) dX8_digest_133 rfl (by decide) (by decide) ?_
                                      refine gz_goto hC 65 dX8_digest_136 (by decide) ?_
                                      refine gz_lw [(0, .ref (ad 0)), (1, .long y), (3, .int x3), (4, .int x4), (5, .int x5), (6, .int (x6 + 1))] ⟨rfl, rfl, rfl, rfl, rfl, rfl, trivial⟩ ?_
                                      exact ih6 (la + 1) _ _ (by omega) (nM_s hx6) (by rw [hy, show mq = (d0 + d1) * F + 1 by omega]; rfl)
                                    · exact absurd (nM_ge hx7 rfl (by omega) (by omega) (by omega)) c83
                                  | succ n7 ih7 =>
                                    intro mq y x7 hi7 hx7 hy
                                    refine gz_iload hC dX8_digest_77 rfl ?_
                                    refine gz_aload_n hC dX8_digest_79 rfl ?_
                                    refine gz_callV0 hC dX8_digest_80 ml_X8_89 rfl rfl (by decide) (by decide) (Nat.le_of_ble_eq_true rfl) (ct_X8_most hJ _ _ d0 d1 F w hX.1) (fun v80 M80 hp80 => ?_)
                                    obtain ⟨rfl, rfl⟩ := hp80
                                    refine gz_icmp_ge hC 133 dX8_digest_83 (by decide) (fun c83 => ?_) (fun c83 => ?_)
                                    · exact absurd c83 (nM_nge hx7 rfl (by omega) (by omega) (by omega))
                                    · refine gz_aload_n hC dX8_digest_86 rfl ?_
                                      refine gz_iload hC dX8_digest_87 rfl ?_
                                      refine gz_iload hC dX8_digest_89 rfl ?_
                                      refine gz_callV2 hC dX8_digest_91 ml_X8_120 rfl rfl (by decide) (by decide) (Nat.le_of_ble_eq_true rfl) (ct_X8_mayMove hJ _ _ d0 d1 F w hX.1 _ _) (fun v91 M91 hp91 => ?_)
                                      obtain ⟨rfl, rfl⟩ := hp91
                                      rw [show sp_bon d0 d1 F x7 = true by rw [hx7]; exact sp_bon_N hO (by omega), Bool.true_and, gz_mfN hx6 hx7 (by omega) (by omega)]
                                      refine gz_if_eq hC 125 dX8_digest_94 (by decide) (fun c94 => ?_) (fun c94 => ?_)
                                      · have hb := gz_b0 c94
                                        refine gz_lload_n hC dX8_digest_125 rfl ?_
                                        refine gz_lstore_n hC dX8_digest_126 (by decide) ?_
                                        refine gz_iinc hC (1) dX8_digest_127 rfl (by decide) (by decide) ?_
                                        refine gz_goto hC 77 dX8_digest_130 (by decide) ?_
                                        refine gz_lw [(0, .ref (ad 0)), (1, .long _), (3, .int x3), (4, .int x4), (5, .int x5), (6, .int x6), (7, .int (x7 + 1))] ⟨rfl, rfl, rfl, rfl, rfl, rfl, rfl, trivial⟩ ?_
                                        exact ih7 (mq + 1) _ _ (by omega) (nM_s hx7) (by rw [hy]; show _ = cond (tb_mf la mq) _ _; rw [hb]; rfl)
                                      · have hb := gz_b1 c94
                                        refine gz_ldc2l hC dX8_digest_97 kc_X8_205 ?_
                                        refine gz_lload_n hC dX8_digest_100 rfl ?_
                                        refine gz_lmul hC dX8_digest_101 ?_
                                        refine gz_aload_n hC dX8_digest_102 rfl ?_
                                        refine gz_getR (j := 7) hC dX8_digest_103 cf_X8 fl_X8_29 rfl rfl (by decide) ?_
                                        refine gz_aload_n hC dX8_digest_106 rfl ?_
                                        refine gz_iload_n hC dX8_digest_107 rfl ?_
                                        refine gz_iload hC dX8_digest_108 rfl ?_
                                        refine gz_iload hC dX8_digest_110 rfl ?_
                                        refine gz_iload hC dX8_digest_112 rfl ?_
                                        refine gz_iload hC dX8_digest_114 rfl ?_
                                        refine gz_callV5 hC dX8_digest_116 ml_X8_123 rfl rfl (by decide) (by decide) (Nat.le_of_ble_eq_true rfl) (ct_X8_at hJ _ _ d0 d1 F w hO hX i pq h la mq (by omega) _ _ _ _ _ hz hx4 hx5 hx6 hx7) (fun v116 M116 hp116 => ?_)
                                        obtain ⟨rfl, rfl⟩ := hp116
                                        have T := tb_facts (cf_okP hO (show pq < 2 by omega))
                                        have e8 := tb_ix_lt (show i < 4 by omega) T.2.2.2.2.2.2.2.1 T.2.2.2.2.2.1 (show h < 4 by omega) (show la < 9 by omega) (show mq < 9 by omega)
                                        refine gz_iald hC dX8_digest_119 rfl (vp_in_nI e8 (by decide)) ?_
                                        rw [nI_clamp (show tb_ix i (tb_d d0 d1 pq) h la mq < 2 ^ 31 by omega)]
                                        refine gz_i2l hC dX8_digest_120 ?_
                                        refine gz_ladd hC dX8_digest_121 ?_
                                        refine gz_goto hC 126 dX8_digest_122 (by decide) ?_
                                        refine gz_lstore_n hC dX8_digest_126 (by decide) ?_
                                        refine gz_iinc hC (1) dX8_digest_127 rfl (by decide) (by decide) ?_
                                        refine gz_goto hC 77 dX8_digest_130 (by decide) ?_
                                        refine gz_lw [(0, .ref (ad 0)), (1, .long _), (3, .int x3), (4, .int x4), (5, .int x5), (6, .int x6), (7, .int (x7 + 1))] ⟨rfl, rfl, rfl, rfl, rfl, rfl, rfl, trivial⟩ ?_
                                        exact ih7 (mq + 1) _ _ (by omega) (nM_s hx7) (by rw [hy]; show _ = cond (tb_mf la mq) _ _; rw [hb]; rfl)
                                exact gz_lw [(0, .ref (ad 0)), (1, .long y), (3, .int x3), (4, .int x4), (5, .int x5), (6, .int x6), (7, .int (-1))] ⟨rfl, rfl, rfl, rfl, rfl, rfl, rfl, trivial⟩ (lp7 (((d0 + d1) * F) + 1) 0 y (-1) (by omega) nM_0 hy)
                          exact gz_lw [(0, .ref (ad 0)), (1, .long y), (3, .int x3), (4, .int x4), (5, .int x5), (6, .int (-1))] ⟨rfl, rfl, rfl, rfl, rfl, rfl, trivial⟩ (lp6 (((d0 + d1) * F) + 1) 0 y (-1) (by omega) nM_0 hy)
                    exact gz_lw [(0, .ref (ad 0)), (1, .long y), (3, .int x3), (4, .int x4), (5, .int 0)] ⟨rfl, rfl, rfl, rfl, rfl, trivial⟩ (lp5 (tb_n (tb_d d0 d1 pq) F) 0 y 0 (by omega) rfl hy)
              exact gz_lw [(0, .ref (ad 0)), (1, .long y), (3, .int x3), (4, .int 0)] ⟨rfl, rfl, rfl, rfl, trivial⟩ (lp3 2 0 y 0 (by omega) rfl hy)
        exact gz_lw [(0, .ref (ad 0)), (1, .long y), (3, .int 0)] ⟨rfl, rfl, rfl, trivial⟩ (lp2 4 0 y 0 (by omega) rfl (by rw [hy, show i = 7 by omega]; rfl))
      · exact absurd (gz_ile (show (7 : Int32) = nI 7 from rfl) hz (by omega) (by omega)) c9
    | succ n1 ih1 =>
      intro i y x3 hi hz hy
      refine gz_iload_n hC dX8_digest_6 rfl ?_
      refine gz_bipush hC (7) dX8_digest_7 (by decide) ?_
      refine gz_icmp_ge hC 31 dX8_digest_9 (by decide) (fun c9 => ?_) (fun c9 => ?_)
      · exact absurd c9 (gz_inle (show (7 : Int32) = nI 7 from rfl) hz (by omega) (by omega))
      · refine gz_ldc2l hC dX8_digest_12 kc_X8_205 ?_
        refine gz_lload_n hC dX8_digest_15 rfl ?_
        refine gz_lmul hC dX8_digest_16 ?_
        refine gz_aload_n hC dX8_digest_17 rfl ?_
        refine gz_iload_n hC dX8_digest_18 rfl ?_
        refine gz_callV1 hC dX8_digest_19 ml_X8_207 rfl rfl (by decide) (by decide) (Nat.le_of_ble_eq_true rfl) (ct_X8_count hJ _ _ d0 d1 F w hO hX th g hg _) (fun v19 M19 hp19 => ?_)
        obtain ⟨rfl, rfl⟩ := hp19
        rw [hz]
        refine gz_i2l hC dX8_digest_22 ?_
        refine gz_ladd hC dX8_digest_23 ?_
        refine gz_lstore_n hC dX8_digest_24 (by decide) ?_
        refine gz_iinc hC (1) dX8_digest_25 rfl (by decide) (by decide) ?_
        refine gz_goto hC 6 dX8_digest_28 (by decide) ?_
        refine gz_lw [(0, .ref (ad 0)), (1, .long _), (3, .int (nI i + 1))] ⟨rfl, rfl, rfl, trivial⟩ ?_
        exact ih1 (i + 1) _ _ (by omega) (nI_1 i) (by rw [hy]; rfl)
  exact gz_lw [(0, .ref (ad 0)), (1, .long 191), (3, .int 0)] ⟨rfl, rfl, rfl, trivial⟩ (lp1 7 0 191 0 (by omega) rfl rfl)
  -- places not laid: [7, 9, 12, 15, 16, 17, 18, 19, 22, 23, 24, 25, 28, 31, 32, 33, 34, 35, 38, 39, 41, 43, 44, 47, 48, 50, 52, 53, 56, 58, 59, 62, 63, 65, 67, 68, 71, 74, 75, 77, 79, 80, 83, 86, 87, 89, 91, 94, 97, 100, 101, 102, 103, 106, 107, 108, 110, 112, 114, 116, 119, 120, 121, 122, 125, 126, 127, 130, 133, 136, 139, 142, 145, 148, 151, 154, 157, 158, 161, 164, 165, 166, 167, 168, 171, 174, 175, 176, 177, 178, 181, 182, 183, 184, 187, 190, 193, 194, 195, 196, 199, 200, 201, 202, 203, 204, 207, 208, 209, 210, 213, 214, 215, 216, 217, 218, 219]
end CT
