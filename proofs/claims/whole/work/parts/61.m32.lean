set_option maxHeartbeats 4000000 in
set_option maxRecDepth 100000 in
theorem c_X10_check {l : Launch} {D : Ds} {L : La} (hM : MAt L) (σ : Me) (A : Al) (hR : RM (σ 1) A) (hV : Va A) (Q : Wt) (hQw : RWt σ Q) (o : Option Al) (hKo : RK σ o) (n h : Int32) : Ct l yX10_check cX10_check 5 (some .int) { frames := 11, cells := 0, slots := 0, locals := 253 } D L σ [.ref (L.1 0), .int n, .int h] (PI L (fun r σ2 => r = oCheck Q o n h ∧ RWt σ2 (0, Q.2) ∧ RM (σ2 1) A ∧ Ex pCh σ σ2)) := by
  refine Ct.of (by decide) (Nat.le_of_ble_eq_true rfl) ?_
  intro X hl hD hnl hX0 hQ
  have hX : Ok X cX10_check RX10 "check" { frames := 11, cells := 0, slots := 0, locals := 253 } (some .int) := hX0
  have hN3 : 3 < xn X := by rw [hnl]; decide
  have hN4 : 4 < xn X := by rw [hnl]; decide
  have hT := hV.1
  have hNn := hV.2.1
  have hW := hV.2.2.1
  have hQ60 := hQw.2.1
  show At X L σ 0 0 [(0, .ref (L.1 0)), (1, .int n), (2, .int h)] 0 []
  rcases hon : o with _ | B
  · skip
    subst hon
    obtain ⟨hK3, hKo⟩ := hKo
    refine r_aload_n hX dX10_check_0 rfl ?_
    refine r_getIV hX dX10_check_1 fl_X10_360 (hM.1 0 (9, 0) rfl) rfl (nI Q.1) hQw.1 ?_
    refine r_istore_n hX [(0, .ref (L.1 0)), (1, .int n), (2, .int h), (3, .int (nI Q.1))] dX10_check_4 hN3 rfl ?_
    refine r_aload_n hX dX10_check_5 rfl ?_
    refine r_iconst hX (nI 0) dX10_check_6 rfl ?_
    refine r_putI hX dX10_check_7 fl_X10_360 (hM.1 0 (9, 0) rfl) rfl rfl rfl rfl ?_
    refine r_iload_n hX dX10_check_10 rfl ?_
    refine r_iconst hX (nI 1) dX10_check_11 rfl ?_
    refine r_bipush hX (nI 30) dX10_check_12 rfl ?_
    refine r_callSF (As := [.int n, .int (nI 1), .int (nI 30)]) (rest := []) hX (c_X10_in (up σ 0 7 (nI 0)) n (nI 1) (nI 30)) dX10_check_14 cb_X10_68 rfl rfl ⟨Nat.le_of_ble_eq_true rfl, Nat.le_of_ble_eq_true rfl⟩ ⟨Nat.le_of_ble_eq_true rfl, Nat.le_of_ble_eq_true rfl⟩ (Nat.le_of_ble_eq_true rfl) ?_
    refine r_ifB_eq hX dX10_check_17 (fun c1 => ?_) (fun c1 => ?_)
    · skip
      refine r_ldc hX dX10_check_31 ko_X10_72 ?_
      exact r_ireturn hX hQ dX10_check_33 ⟨Nat.le_of_ble_eq_true rfl, Nat.le_of_ble_eq_true rfl⟩ (PI.mk (by rw [oCheck, if_neg (fun e => by have e := e.1; rw [c1] at e; cases e)]; exact ⟨rfl, ⟨up_s, Nat.zero_le _, fun k hk => absurd hk (Nat.not_lt_zero k)⟩, by rw [up_row (by decide)]; exact hR, Ex.up (Ex.rf σ) rfl⟩))
    · skip
      obtain ⟨q, hql, hq, rfl⟩ := inB_nat c1 (by decide) (by decide)
      refine r_iload_n hX dX10_check_20 rfl ?_
      refine r_iconst hX (nI 0) dX10_check_21 rfl ?_
      refine r_sipush hX (nI 999) dX10_check_22 rfl ?_
      refine r_callSF (As := [.int h, .int (nI 0), .int (nI 999)]) (rest := []) hX (c_X10_in (up σ 0 7 (nI 0)) h (nI 0) (nI 999)) dX10_check_25 cb_X10_68 rfl rfl ⟨Nat.le_of_ble_eq_true rfl, Nat.le_of_ble_eq_true rfl⟩ ⟨Nat.le_of_ble_eq_true rfl, Nat.le_of_ble_eq_true rfl⟩ (Nat.le_of_ble_eq_true rfl) ?_
      refine r_ifB_ne hX dX10_check_28 (fun c2 => ?_) (fun c2 => ?_)
      · skip
        obtain ⟨y, hyl, hy, rfl⟩ := inB_nat c2 (by decide) (by decide)
        have hyh : y ≤ 999 := by omega
        refine r_aload_n hX dX10_check_34 rfl ?_
        refine r_getIV hX dX10_check_35 fl_X10_363 (hM.1 0 (9, 0) rfl) rfl (nI 0) (by rw [up_n (by omega)]; exact hK3) ?_
        refine r_ifN_eq hX dX10_check_38 (by decide) (fun c3 => ?_) (fun c3 => absurd c3 (by decide))
        refine r_ldc hX dX10_check_50 ko_X10_229 ?_
        exact r_ireturn hX hQ dX10_check_52 ⟨Nat.le_of_ble_eq_true rfl, Nat.le_of_ble_eq_true rfl⟩ (PI.mk (by rw [oCheck, if_pos ⟨c1, c2⟩]; exact ⟨rfl, ⟨up_s, Nat.zero_le _, fun k hk => absurd hk (Nat.not_lt_zero k)⟩, by rw [up_row (by decide)]; exact hR, Ex.up (Ex.rf σ) rfl⟩))
      · skip
        refine r_ldc hX dX10_check_31 ko_X10_72 ?_
        exact r_ireturn hX hQ dX10_check_33 ⟨Nat.le_of_ble_eq_true rfl, Nat.le_of_ble_eq_true rfl⟩ (PI.mk (by rw [oCheck, if_neg (fun e => by have e := e.2; rw [c2] at e; cases e)]; exact ⟨rfl, ⟨up_s, Nat.zero_le _, fun k hk => absurd hk (Nat.not_lt_zero k)⟩, by rw [up_row (by decide)]; exact hR, Ex.up (Ex.rf σ) rfl⟩))
  · skip
    subst hon
    obtain ⟨hK3, hKo⟩ := hKo
    obtain ⟨hRB, hVB⟩ := hKo B rfl
    have hTB := hVB.1
    refine r_aload_n hX dX10_check_0 rfl ?_
    refine r_getIV hX dX10_check_1 fl_X10_360 (hM.1 0 (9, 0) rfl) rfl (nI Q.1) hQw.1 ?_
    refine r_istore_n hX [(0, .ref (L.1 0)), (1, .int n), (2, .int h), (3, .int (nI Q.1))] dX10_check_4 hN3 rfl ?_
    refine r_aload_n hX dX10_check_5 rfl ?_
    refine r_iconst hX (nI 0) dX10_check_6 rfl ?_
    refine r_putI hX dX10_check_7 fl_X10_360 (hM.1 0 (9, 0) rfl) rfl rfl rfl rfl ?_
    refine r_iload_n hX dX10_check_10 rfl ?_
    refine r_iconst hX (nI 1) dX10_check_11 rfl ?_
    refine r_bipush hX (nI 30) dX10_check_12 rfl ?_
    refine r_callSF (As := [.int n, .int (nI 1), .int (nI 30)]) (rest := []) hX (c_X10_in (up σ 0 7 (nI 0)) n (nI 1) (nI 30)) dX10_check_14 cb_X10_68 rfl rfl ⟨Nat.le_of_ble_eq_true rfl, Nat.le_of_ble_eq_true rfl⟩ ⟨Nat.le_of_ble_eq_true rfl, Nat.le_of_ble_eq_true rfl⟩ (Nat.le_of_ble_eq_true rfl) ?_
    refine r_ifB_eq hX dX10_check_17 (fun c4 => ?_) (fun c4 => ?_)
    · skip
      refine r_ldc hX dX10_check_31 ko_X10_72 ?_
      exact r_ireturn hX hQ dX10_check_33 ⟨Nat.le_of_ble_eq_true rfl, Nat.le_of_ble_eq_true rfl⟩ (PI.mk (by rw [oCheck, if_neg (fun e => by have e := e.1; rw [c4] at e; cases e)]; exact ⟨rfl, ⟨up_s, Nat.zero_le _, fun k hk => absurd hk (Nat.not_lt_zero k)⟩, by rw [up_row (by decide)]; exact hR, Ex.up (Ex.rf σ) rfl⟩))
    · skip
      obtain ⟨q, hql, hq, rfl⟩ := inB_nat c4 (by decide) (by decide)
      refine r_iload_n hX dX10_check_20 rfl ?_
      refine r_iconst hX (nI 0) dX10_check_21 rfl ?_
      refine r_sipush hX (nI 999) dX10_check_22 rfl ?_
      refine r_callSF (As := [.int h, .int (nI 0), .int (nI 999)]) (rest := []) hX (c_X10_in (up σ 0 7 (nI 0)) h (nI 0) (nI 999)) dX10_check_25 cb_X10_68 rfl rfl ⟨Nat.le_of_ble_eq_true rfl, Nat.le_of_ble_eq_true rfl⟩ ⟨Nat.le_of_ble_eq_true rfl, Nat.le_of_ble_eq_true rfl⟩ (Nat.le_of_ble_eq_true rfl) ?_
      refine r_ifB_ne hX dX10_check_28 (fun c5 => ?_) (fun c5 => ?_)
      · skip
        obtain ⟨y, hyl, hy, rfl⟩ := inB_nat c5 (by decide) (by decide)
        have hyh : y ≤ 999 := by omega
        refine r_aload_n hX dX10_check_34 rfl ?_
        refine r_getIV hX dX10_check_35 fl_X10_363 (hM.1 0 (9, 0) rfl) rfl (nI 1) (by rw [up_n (by omega)]; exact hK3) ?_
        refine r_ifN_eq hX dX10_check_38 (by decide) (fun c6 => absurd c6 (by decide)) (fun c6 => ?_)
        refine r_aload_n hX dX10_check_41 rfl ?_
        refine r_getR hX dX10_check_42 fl_X10_13 (hM.1 0 (9, 0) rfl) rfl (hM.2 1 2 rfl) ?_
        refine r_iconst hX (nI 0) dX10_check_45 rfl ?_
        refine r_aldN hX dX10_check_46 (hM.1 2 (10, 1605) rfl) (by decide) (by decide) (nI (aT B)) (by rw [up_n (by omega)]; exact hRB.1) ?_
        refine r_ifN_ne hX dX10_check_47 (by omega) (fun c7 => ?_) (fun c7 => ?_)
        · skip
          refine r_aload_n hX dX10_check_53 rfl ?_
          refine r_getR hX dX10_check_54 fl_X10_9 (hM.1 0 (9, 0) rfl) rfl (hM.2 0 1 rfl) ?_
          refine r_aload_n hX dX10_check_57 rfl ?_
          refine r_getR hX dX10_check_58 fl_X10_16 (hM.1 0 (9, 0) rfl) rfl (hM.2 2 3 rfl) ?_
          refine r_callSV (As := [.ref (L.1 1), .ref (L.1 3)]) (rest := []) hX (c_X10_lay (up σ 0 7 (nI 0)) 1 3 (hM.1 1 (10, 1605) rfl) (hM.1 3 (10, 1605) rfl) (by decide)) dX10_check_61 cb_X10_366 rfl rfl ⟨Nat.le_of_ble_eq_true rfl, Nat.le_of_ble_eq_true rfl⟩ ⟨Nat.le_of_ble_eq_true rfl, Nat.le_of_ble_eq_true rfl⟩ (Nat.le_of_ble_eq_true rfl) (fun σ8 h9 => ?_)
          have hL10 := h9
          refine r_aload_n hX dX10_check_64 rfl ?_
          refine r_getR hX dX10_check_65 fl_X10_13 (hM.1 0 (9, 0) rfl) rfl (hM.2 1 2 rfl) ?_
          refine r_aload_n hX dX10_check_68 rfl ?_
          refine r_getR hX dX10_check_69 fl_X10_9 (hM.1 0 (9, 0) rfl) rfl (hM.2 0 1 rfl) ?_
          refine r_callSV (As := [.ref (L.1 2), .ref (L.1 1)]) (rest := []) hX (c_X10_lay σ8 2 1 (hM.1 2 (10, 1605) rfl) (hM.1 1 (10, 1605) rfl) (by decide)) dX10_check_72 cb_X10_366 rfl rfl ⟨Nat.le_of_ble_eq_true rfl, Nat.le_of_ble_eq_true rfl⟩ ⟨Nat.le_of_ble_eq_true rfl, Nat.le_of_ble_eq_true rfl⟩ (Nat.le_of_ble_eq_true rfl) (fun σ11 h12 => ?_)
          have hL13 := h12
          refine r_aload_n hX dX10_check_75 rfl ?_
          refine r_iload_n hX dX10_check_76 rfl ?_
          refine r_iload_n hX dX10_check_77 rfl ?_
          refine r_iload_n hX dX10_check_78 rfl ?_
          refine r_callVI (As := [.int (nI q), .int (nI y), .int (nI Q.1)]) (rest := []) hX (c_X10_rightOnes hM σ11 B (RM.lt hRB hVB (fun j hj => by rw [hL13, hL10]; simp [cpk, hj, up])) hVB Q (fun k hk => by rw [hL13, hL10]; simp [cpk, up]; exact hQw.2.2 k hk) hQ60 q y (by omega) (by omega) (by omega)) dX10_check_79 cb_X10_370 (hM.1 0 (9, 0) rfl) rfl rfl ⟨Nat.le_of_ble_eq_true rfl, Nat.le_of_ble_eq_true rfl⟩ ⟨Nat.le_of_ble_eq_true rfl, Nat.le_of_ble_eq_true rfl⟩ (Nat.le_of_ble_eq_true rfl) (fun r14 σ15 h16 => ?_)
          obtain ⟨rfl, hS17⟩ := h16
          have hvk := rgS_ok hVB (by omega) hyh Q q
          refine r_istore hX [(0, .ref (L.1 0)), (1, .int (nI q)), (2, .int (nI y)), (3, .int (nI Q.1)), (4, .int (nI ((rgS B y Q q).2.1)))] dX10_check_82 hN4 rfl ?_
          refine r_aload_n hX dX10_check_84 rfl ?_
          refine r_getR hX dX10_check_85 fl_X10_16 (hM.1 0 (9, 0) rfl) rfl (hM.2 2 3 rfl) ?_
          refine r_aload_n hX dX10_check_88 rfl ?_
          refine r_getR hX dX10_check_89 fl_X10_9 (hM.1 0 (9, 0) rfl) rfl (hM.2 0 1 rfl) ?_
          refine r_callSV (As := [.ref (L.1 3), .ref (L.1 1)]) (rest := []) hX (c_X10_lay σ15 3 1 (hM.1 3 (10, 1605) rfl) (hM.1 1 (10, 1605) rfl) (by decide)) dX10_check_92 cb_X10_366 rfl rfl ⟨Nat.le_of_ble_eq_true rfl, Nat.le_of_ble_eq_true rfl⟩ ⟨Nat.le_of_ble_eq_true rfl, Nat.le_of_ble_eq_true rfl⟩ (Nat.le_of_ble_eq_true rfl) (fun σ18 h19 => ?_)
          have hL20 := h19
          refine r_iload hX dX10_check_95 rfl ?_
          refine r_iconst hX (nI 2) dX10_check_97 rfl ?_
          refine r_iload_n hX dX10_check_98 rfl ?_
          refine r_imulN hX dX10_check_99 ?_
          refine r_icmpN_ne hX dX10_check_100 (by omega) (by omega) (fun c21 => ?_) (fun c21 => ?_)
          · skip
            refine r_iconst hX (nI 1) dX10_check_113 rfl ?_
            refine r_iload hX dX10_check_114 rfl ?_
            refine r_iaddN hX dX10_check_116 ?_
            exact r_ireturn hX hQ dX10_check_117 ⟨Nat.le_of_ble_eq_true rfl, Nat.le_of_ble_eq_true rfl⟩ (PI.mk (by rw [oCheck, if_pos ⟨c4, c5⟩]; show _ = (if _ then _ else _) ∧ _; rw [if_neg c7, nI_clamp (n := q) (by omega), nI_clamp (n := y) (by omega), if_neg (fun e => c21 e.1)]; exact ⟨rfl, ck_fin hR hV hL10 hL13 hS17 hL20⟩))
          · skip
            refine r_iload_n hX dX10_check_103 rfl ?_
            refine r_iload hX dX10_check_104 rfl ?_
            refine r_icmpN_ne hX dX10_check_106 (by omega) (by omega) (fun c22 => ?_) (fun c22 => ?_)
            · skip
              refine r_iconst hX (nI 1) dX10_check_113 rfl ?_
              refine r_iload hX dX10_check_114 rfl ?_
              refine r_iaddN hX dX10_check_116 ?_
              exact r_ireturn hX hQ dX10_check_117 ⟨Nat.le_of_ble_eq_true rfl, Nat.le_of_ble_eq_true rfl⟩ (PI.mk (by rw [oCheck, if_pos ⟨c4, c5⟩]; show _ = (if _ then _ else _) ∧ _; rw [if_neg c7, nI_clamp (n := q) (by omega), nI_clamp (n := y) (by omega), if_neg (fun e => c22 e.2)]; exact ⟨rfl, ck_fin hR hV hL10 hL13 hS17 hL20⟩))
            · skip
              refine r_iconst hX (nI 0) dX10_check_109 rfl ?_
              refine r_goto hX dX10_check_110 ?_
              exact r_ireturn hX hQ dX10_check_117 ⟨Nat.le_of_ble_eq_true rfl, Nat.le_of_ble_eq_true rfl⟩ (PI.mk (by rw [oCheck, if_pos ⟨c4, c5⟩]; show _ = (if _ then _ else _) ∧ _; rw [if_neg c7, nI_clamp (n := q) (by omega), nI_clamp (n := y) (by omega), if_pos ⟨c21, c22⟩]; exact ⟨rfl, ck_fin hR hV hL10 hL13 hS17 hL20⟩))
        · skip
          refine r_ldc hX dX10_check_50 ko_X10_229 ?_
          exact r_ireturn hX hQ dX10_check_52 ⟨Nat.le_of_ble_eq_true rfl, Nat.le_of_ble_eq_true rfl⟩ (PI.mk (by rw [oCheck, if_pos ⟨c4, c5⟩]; show _ = (if _ then _ else _) ∧ _; rw [if_pos c7]; exact ⟨rfl, ⟨up_s, Nat.zero_le _, fun k hk => absurd hk (Nat.not_lt_zero k)⟩, by rw [up_row (by decide)]; exact hR, Ex.up (Ex.rf σ) rfl⟩))
      · skip
        refine r_ldc hX dX10_check_31 ko_X10_72 ?_
        exact r_ireturn hX hQ dX10_check_33 ⟨Nat.le_of_ble_eq_true rfl, Nat.le_of_ble_eq_true rfl⟩ (PI.mk (by rw [oCheck, if_neg (fun e => by have e := e.2; rw [c5] at e; cases e)]; exact ⟨rfl, ⟨up_s, Nat.zero_le _, fun k hk => absurd hk (Nat.not_lt_zero k)⟩, by rw [up_row (by decide)]; exact hR, Ex.up (Ex.rf σ) rfl⟩))
