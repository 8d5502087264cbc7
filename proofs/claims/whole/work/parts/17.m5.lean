set_option maxHeartbeats 4000000 in
set_option maxRecDepth 100000 in
theorem c_X10_showOf {l : Launch} {D : Ds} {L : La} (hM : MAt L) (σ : Me) (A : Al) (hR : RM (σ 1) A) (hV : Va A) (t : Nat) (ht : t < 2 ^ 31) (o : Option Nat) (ho : lst A 2 (aX A).length = o) : Ct l yX10_showOf cX10_showOf 4 (some .int) { frames := 6, cells := 0, slots := 0, locals := 135 } D L σ [.ref (L.1 0), .int (nI t), .int (oI o)] (PI L (fun r σ2 => r = shI A t ∧ Su σ σ2)) := by
  refine Ct.of (by decide) (Nat.le_of_ble_eq_true rfl) ?_
  intro X hl hD hnl hX0 hQ
  have hX : Ok X cX10_showOf RX10 "showOf" { frames := 6, cells := 0, slots := 0, locals := 135 } (some .int) := hX0
  have hN3 : 3 < xn X := by rw [hnl]; decide
  have hss := ss_le hV t
  have hcl := cw_le A 1 t (aW A)
  have hW := hV.2.2.1
  have hm5 := mn_le hV t
  have g2 := sW_le hV t _ (Nat.le_refl _)
  have g3 := sM_le hV t _ (Nat.le_refl _)
  show At X L σ 0 0 [(0, .ref (L.1 0)), (1, .int (nI t)), (2, .int (oI o))] 0 []
  rcases o with _ | x
  · skip
    show At X L σ 0 0 [(0, .ref (L.1 0)), (1, .int (nI t)), (2, .int (-1))] 0 []
    refine r_aload_n hX dX10_showOf_0 rfl ?_
    refine r_iload_n hX dX10_showOf_1 rfl ?_
    refine r_callVF (As := [.int (nI t)]) (rest := []) hX (c_X10_meanOf hM σ A hR hV t (by omega)) dX10_showOf_2 cb_X10_171 (hM.1 0 (9, 0) rfl) rfl rfl ⟨Nat.le_of_ble_eq_true rfl, Nat.le_of_ble_eq_true rfl⟩ ⟨Nat.le_of_ble_eq_true rfl, Nat.le_of_ble_eq_true rfl⟩ (Nat.le_of_ble_eq_true rfl) ?_
    by_cases hcw : cw A 1 t (aW A) = 0
    · skip
      rw [mnI_0 hcw]
      have hmz : mz A t = 0 := by unfold mz; rw [if_pos hcw]
      refine r_istore_n hX [(0, .ref (L.1 0)), (1, .int (nI t)), (2, .int (-1)), (3, .int (-1000000005))] dX10_showOf_5 hN3 rfl ?_
      refine r_iload_n hX dX10_showOf_6 rfl ?_
      refine r_if_ge hX dX10_showOf_7 (fun c1 => absurd c1 (by decide)) (fun c1 => ?_)
      refine r_iload_n hX dX10_showOf_10 rfl ?_
      refine r_ldc hX dX10_showOf_11 ko_X10_92 ?_
      refine r_icmp_ne hX dX10_showOf_13 (fun c2 => absurd rfl c2) (fun c2 => ?_)
      refine r_iconst hX (nI 0) dX10_showOf_16 rfl ?_
      refine r_goto hX dX10_showOf_17 ?_
      exact r_ireturn hX hQ dX10_showOf_21 ⟨Nat.le_of_ble_eq_true rfl, Nat.le_of_ble_eq_true rfl⟩ (PI.mk ⟨by unfold shI; rw [ho, hmz], (Su.rf σ)⟩)
    · skip
      rw [mnI_1 hcw]
      have hmz : mz A t = mn A t := by unfold mz; rw [if_neg hcw]
      refine r_istore_n hX [(0, .ref (L.1 0)), (1, .int (nI t)), (2, .int (-1)), (3, .int (nI (mn A t)))] dX10_showOf_5 hN3 rfl ?_
      refine r_iload_n hX dX10_showOf_6 rfl ?_
      refine r_if_ge hX dX10_showOf_7 (fun c3 => absurd c3 (by decide)) (fun c3 => ?_)
      refine r_iload_n hX dX10_showOf_10 rfl ?_
      refine r_ldc hX dX10_showOf_11 ko_X10_92 ?_
      refine r_icmp_ne hX dX10_showOf_13 (fun c4 => ?_) (fun c4 => absurd c4 (nneg_ne (by omega) (by decide)))
      refine r_iload_n hX dX10_showOf_20 rfl ?_
      exact r_ireturn hX hQ dX10_showOf_21 ⟨Nat.le_of_ble_eq_true rfl, Nat.le_of_ble_eq_true rfl⟩ (PI.mk ⟨by unfold shI; rw [ho, hmz], (Su.rf σ)⟩)
  · skip
    show At X L σ 0 0 [(0, .ref (L.1 0)), (1, .int (nI t)), (2, .int (nI x))] 0 []
    obtain ⟨hx, hxk⟩ := lst_lt ho
    have hX14 := hV.2.2.2.1
    refine r_aload_n hX dX10_showOf_0 rfl ?_
    refine r_iload_n hX dX10_showOf_1 rfl ?_
    refine r_callVF (As := [.int (nI t)]) (rest := []) hX (c_X10_meanOf hM σ A hR hV t (by omega)) dX10_showOf_2 cb_X10_171 (hM.1 0 (9, 0) rfl) rfl rfl ⟨Nat.le_of_ble_eq_true rfl, Nat.le_of_ble_eq_true rfl⟩ ⟨Nat.le_of_ble_eq_true rfl, Nat.le_of_ble_eq_true rfl⟩ (Nat.le_of_ble_eq_true rfl) ?_
    by_cases hcw : cw A 1 t (aW A) = 0
    · skip
      rw [mnI_0 hcw]
      have hmz : mz A t = 0 := by unfold mz; rw [if_pos hcw]
      refine r_istore_n hX [(0, .ref (L.1 0)), (1, .int (nI t)), (2, .int (nI x)), (3, .int (-1000000005))] dX10_showOf_5 hN3 rfl ?_
      refine r_iload_n hX dX10_showOf_6 rfl ?_
      refine r_ifN_ge hX dX10_showOf_7 (by omega) ?_
      refine r_aload_n hX dX10_showOf_22 rfl ?_
      refine r_iload_n hX dX10_showOf_23 rfl ?_
      refine r_callVV (As := [.int (nI t)]) (rest := []) hX (c_X10_sums hM σ A hR hV t (by omega)) dX10_showOf_24 cb_X10_174 (hM.1 0 (9, 0) rfl) rfl rfl ⟨Nat.le_of_ble_eq_true rfl, Nat.le_of_ble_eq_true rfl⟩ ⟨Nat.le_of_ble_eq_true rfl, Nat.le_of_ble_eq_true rfl⟩ (Nat.le_of_ble_eq_true rfl) (fun σ5 h6 => ?_)
      obtain ⟨hU8, hS7⟩ := h6
      have hR9 := hS7.rm hR
      refine r_aload_n hX dX10_showOf_27 rfl ?_
      refine r_getR hX dX10_showOf_28 fl_X10_35 (hM.1 0 (9, 0) rfl) rfl (hM.2 19 9 rfl) ?_
      refine r_bipush hX (nI 12) dX10_showOf_31 rfl ?_
      refine r_iload_n hX dX10_showOf_33 rfl ?_
      refine r_ldc hX dX10_showOf_34 ko_X10_92 ?_
      refine r_icmp_ne hX dX10_showOf_36 (fun c10 => absurd rfl c10) (fun c10 => ?_)
      refine r_iconst hX (nI 0) dX10_showOf_39 rfl ?_
      refine r_goto hX dX10_showOf_40 ?_
      refine r_astN hX dX10_showOf_44 (hM.1 9 (10, 26) rfl) (by decide) (by decide) ?_
      refine r_aload_n hX dX10_showOf_45 rfl ?_
      refine r_getR hX dX10_showOf_46 fl_X10_35 (hM.1 0 (9, 0) rfl) rfl (hM.2 19 9 rfl) ?_
      refine r_bipush hX (nI 22) dX10_showOf_49 rfl ?_
      refine r_aload_n hX dX10_showOf_51 rfl ?_
      refine r_getIV hX dX10_showOf_52 fl_X10_156 (hM.1 0 (9, 0) rfl) rfl (nI (sm A t (wtN A) (aW A))) (by rw [up_n (by omega)]; exact hU8.2.2.1) ?_
      refine r_ifN_ne hX dX10_showOf_55 (by omega) (fun c11 => ?_) (fun c11 => ?_)
      · skip
        refine r_bipush hX (nI 100) dX10_showOf_62 rfl ?_
        refine r_aload_n hX dX10_showOf_64 rfl ?_
        refine r_getIV hX dX10_showOf_65 fl_X10_159 (hM.1 0 (9, 0) rfl) rfl (nI (sm A t (gM A) (aW A))) (by rw [up_n (by omega)]; exact hU8.2.2.2.1) ?_
        refine r_imulN hX dX10_showOf_68 ?_
        refine r_aload_n hX dX10_showOf_69 rfl ?_
        refine r_getIV hX dX10_showOf_70 fl_X10_156 (hM.1 0 (9, 0) rfl) rfl (nI (sm A t (wtN A) (aW A))) (by rw [up_n (by omega)]; exact hU8.2.2.1) ?_
        refine r_idivN hX dX10_showOf_73 (by omega) (by omega) (by omega) ?_
        refine r_astN hX dX10_showOf_74 (hM.1 9 (10, 26) rfl) (by decide) (by decide) ?_
        refine r_aload_n hX dX10_showOf_75 rfl ?_
        refine r_getR hX dX10_showOf_76 fl_X10_35 (hM.1 0 (9, 0) rfl) rfl (hM.2 19 9 rfl) ?_
        refine r_iconst hX (nI 2) dX10_showOf_79 rfl ?_
        refine r_aload_n hX dX10_showOf_80 rfl ?_
        refine r_getIV hX dX10_showOf_81 fl_X10_149 (hM.1 0 (9, 0) rfl) rfl (nI (cw A 1 t (aW A))) (by rw [up_n (by omega), up_n (by omega)]; exact hU8.1) ?_
        refine r_astN hX dX10_showOf_84 (hM.1 9 (10, 26) rfl) (by decide) (by decide) ?_
        refine r_aload_n hX dX10_showOf_85 rfl ?_
        refine r_iload_n hX dX10_showOf_86 rfl ?_
        refine r_callVI (As := [.int (nI x)]) (rest := []) hX (c_X10_worth hM (up (up (up σ5 9 12 (nI 0)) 9 22 (nI ((100 * (sm A t (gM A) (aW A))) / (sm A t (wtN A) (aW A))))) 9 2 (nI (cw A 1 t (aW A)))) A (by rw [up_row (by decide), up_row (by decide), up_row (by decide)]; exact hR9) hV x hx) dX10_showOf_87 cb_X10_117 (hM.1 0 (9, 0) rfl) rfl rfl ⟨Nat.le_of_ble_eq_true rfl, Nat.le_of_ble_eq_true rfl⟩ ⟨Nat.le_of_ble_eq_true rfl, Nat.le_of_ble_eq_true rfl⟩ (Nat.le_of_ble_eq_true rfl) (fun r12 σ13 h14 => ?_)
        obtain ⟨hE16, hS15⟩ := h14
        rw [evV_cong (okT_at hV hx) (g := fS A t) (fun i hi => by rw [hxk] at hi; rcases (show i = 12 ∨ i = 22 ∨ i = 2 by simp [ltr] at hi; omega) with rfl | rfl | rfl <;> simp [up, fS, wz, hmz, sW, sM, c11])] at hE16
        subst hE16
        have hR17 : RM (σ13 1) A := by rw [hS15.row (by decide)]; exact hR9
        exact r_ireturn hX hQ dX10_showOf_90 ⟨Nat.le_of_ble_eq_true rfl, Nat.le_of_ble_eq_true rfl⟩ (PI.mk ⟨by unfold shI; rw [ho], (Su.tr (Su.up (Su.up (Su.up (Su.tr (Su.rf σ) hS7) rfl) rfl) rfl) hS15.s11.su)⟩)
      · skip
        refine r_iconst hX (nI 0) dX10_showOf_58 rfl ?_
        refine r_goto hX dX10_showOf_59 ?_
        refine r_astN hX dX10_showOf_74 (hM.1 9 (10, 26) rfl) (by decide) (by decide) ?_
        refine r_aload_n hX dX10_showOf_75 rfl ?_
        refine r_getR hX dX10_showOf_76 fl_X10_35 (hM.1 0 (9, 0) rfl) rfl (hM.2 19 9 rfl) ?_
        refine r_iconst hX (nI 2) dX10_showOf_79 rfl ?_
        refine r_aload_n hX dX10_showOf_80 rfl ?_
        refine r_getIV hX dX10_showOf_81 fl_X10_149 (hM.1 0 (9, 0) rfl) rfl (nI (cw A 1 t (aW A))) (by rw [up_n (by omega), up_n (by omega)]; exact hU8.1) ?_
        refine r_astN hX dX10_showOf_84 (hM.1 9 (10, 26) rfl) (by decide) (by decide) ?_
        refine r_aload_n hX dX10_showOf_85 rfl ?_
        refine r_iload_n hX dX10_showOf_86 rfl ?_
        refine r_callVI (As := [.int (nI x)]) (rest := []) hX (c_X10_worth hM (up (up (up σ5 9 12 (nI 0)) 9 22 (nI 0)) 9 2 (nI (cw A 1 t (aW A)))) A (by rw [up_row (by decide), up_row (by decide), up_row (by decide)]; exact hR9) hV x hx) dX10_showOf_87 cb_X10_117 (hM.1 0 (9, 0) rfl) rfl rfl ⟨Nat.le_of_ble_eq_true rfl, Nat.le_of_ble_eq_true rfl⟩ ⟨Nat.le_of_ble_eq_true rfl, Nat.le_of_ble_eq_true rfl⟩ (Nat.le_of_ble_eq_true rfl) (fun r18 σ19 h20 => ?_)
        obtain ⟨hE22, hS21⟩ := h20
        rw [evV_cong (okT_at hV hx) (g := fS A t) (fun i hi => by rw [hxk] at hi; rcases (show i = 12 ∨ i = 22 ∨ i = 2 by simp [ltr] at hi; omega) with rfl | rfl | rfl <;> simp [up, fS, wz, hmz, sW, sM, c11])] at hE22
        subst hE22
        have hR23 : RM (σ19 1) A := by rw [hS21.row (by decide)]; exact hR9
        exact r_ireturn hX hQ dX10_showOf_90 ⟨Nat.le_of_ble_eq_true rfl, Nat.le_of_ble_eq_true rfl⟩ (PI.mk ⟨by unfold shI; rw [ho], (Su.tr (Su.up (Su.up (Su.up (Su.tr (Su.rf σ) hS7) rfl) rfl) rfl) hS21.s11.su)⟩)
    · skip
      rw [mnI_1 hcw]
      have hmz : mz A t = mn A t := by unfold mz; rw [if_neg hcw]
      refine r_istore_n hX [(0, .ref (L.1 0)), (1, .int (nI t)), (2, .int (nI x)), (3, .int (nI (mn A t)))] dX10_showOf_5 hN3 rfl ?_
      refine r_iload_n hX dX10_showOf_6 rfl ?_
      refine r_ifN_ge hX dX10_showOf_7 (by omega) ?_
      refine r_aload_n hX dX10_showOf_22 rfl ?_
      refine r_iload_n hX dX10_showOf_23 rfl ?_
      refine r_callVV (As := [.int (nI t)]) (rest := []) hX (c_X10_sums hM σ A hR hV t (by omega)) dX10_showOf_24 cb_X10_174 (hM.1 0 (9, 0) rfl) rfl rfl ⟨Nat.le_of_ble_eq_true rfl, Nat.le_of_ble_eq_true rfl⟩ ⟨Nat.le_of_ble_eq_true rfl, Nat.le_of_ble_eq_true rfl⟩ (Nat.le_of_ble_eq_true rfl) (fun σ24 h25 => ?_)
      obtain ⟨hU27, hS26⟩ := h25
      have hR28 := hS26.rm hR
      refine r_aload_n hX dX10_showOf_27 rfl ?_
      refine r_getR hX dX10_showOf_28 fl_X10_35 (hM.1 0 (9, 0) rfl) rfl (hM.2 19 9 rfl) ?_
      refine r_bipush hX (nI 12) dX10_showOf_31 rfl ?_
      refine r_iload_n hX dX10_showOf_33 rfl ?_
      refine r_ldc hX dX10_showOf_34 ko_X10_92 ?_
      refine r_icmp_ne hX dX10_showOf_36 (fun c29 => ?_) (fun c29 => absurd c29 (nneg_ne (by omega) (by decide)))
      refine r_iload_n hX dX10_showOf_43 rfl ?_
      refine r_astN hX dX10_showOf_44 (hM.1 9 (10, 26) rfl) (by decide) (by decide) ?_
      refine r_aload_n hX dX10_showOf_45 rfl ?_
      refine r_getR hX dX10_showOf_46 fl_X10_35 (hM.1 0 (9, 0) rfl) rfl (hM.2 19 9 rfl) ?_
      refine r_bipush hX (nI 22) dX10_showOf_49 rfl ?_
      refine r_aload_n hX dX10_showOf_51 rfl ?_
      refine r_getIV hX dX10_showOf_52 fl_X10_156 (hM.1 0 (9, 0) rfl) rfl (nI (sm A t (wtN A) (aW A))) (by rw [up_n (by omega)]; exact hU27.2.2.1) ?_
      refine r_ifN_ne hX dX10_showOf_55 (by omega) (fun c30 => ?_) (fun c30 => ?_)
      · skip
        refine r_bipush hX (nI 100) dX10_showOf_62 rfl ?_
        refine r_aload_n hX dX10_showOf_64 rfl ?_
        refine r_getIV hX dX10_showOf_65 fl_X10_159 (hM.1 0 (9, 0) rfl) rfl (nI (sm A t (gM A) (aW A))) (by rw [up_n (by omega)]; exact hU27.2.2.2.1) ?_
        refine r_imulN hX dX10_showOf_68 ?_
        refine r_aload_n hX dX10_showOf_69 rfl ?_
        refine r_getIV hX dX10_showOf_70 fl_X10_156 (hM.1 0 (9, 0) rfl) rfl (nI (sm A t (wtN A) (aW A))) (by rw [up_n (by omega)]; exact hU27.2.2.1) ?_
        refine r_idivN hX dX10_showOf_73 (by omega) (by omega) (by omega) ?_
        refine r_astN hX dX10_showOf_74 (hM.1 9 (10, 26) rfl) (by decide) (by decide) ?_
        refine r_aload_n hX dX10_showOf_75 rfl ?_
        refine r_getR hX dX10_showOf_76 fl_X10_35 (hM.1 0 (9, 0) rfl) rfl (hM.2 19 9 rfl) ?_
        refine r_iconst hX (nI 2) dX10_showOf_79 rfl ?_
        refine r_aload_n hX dX10_showOf_80 rfl ?_
        refine r_getIV hX dX10_showOf_81 fl_X10_149 (hM.1 0 (9, 0) rfl) rfl (nI (cw A 1 t (aW A))) (by rw [up_n (by omega), up_n (by omega)]; exact hU27.1) ?_
        refine r_astN hX dX10_showOf_84 (hM.1 9 (10, 26) rfl) (by decide) (by decide) ?_
        refine r_aload_n hX dX10_showOf_85 rfl ?_
        refine r_iload_n hX dX10_showOf_86 rfl ?_
        refine r_callVI (As := [.int (nI x)]) (rest := []) hX (c_X10_worth hM (up (up (up σ24 9 12 (nI (mn A t))) 9 22 (nI ((100 * (sm A t (gM A) (aW A))) / (sm A t (wtN A) (aW A))))) 9 2 (nI (cw A 1 t (aW A)))) A (by rw [up_row (by decide), up_row (by decide), up_row (by decide)]; exact hR28) hV x hx) dX10_showOf_87 cb_X10_117 (hM.1 0 (9, 0) rfl) rfl rfl ⟨Nat.le_of_ble_eq_true rfl, Nat.le_of_ble_eq_true rfl⟩ ⟨Nat.le_of_ble_eq_true rfl, Nat.le_of_ble_eq_true rfl⟩ (Nat.le_of_ble_eq_true rfl) (fun r31 σ32 h33 => ?_)
        obtain ⟨hE35, hS34⟩ := h33
        rw [evV_cong (okT_at hV hx) (g := fS A t) (fun i hi => by rw [hxk] at hi; rcases (show i = 12 ∨ i = 22 ∨ i = 2 by simp [ltr] at hi; omega) with rfl | rfl | rfl <;> simp [up, fS, wz, hmz, sW, sM, c30])] at hE35
        subst hE35
        have hR36 : RM (σ32 1) A := by rw [hS34.row (by decide)]; exact hR28
        exact r_ireturn hX hQ dX10_showOf_90 ⟨Nat.le_of_ble_eq_true rfl, Nat.le_of_ble_eq_true rfl⟩ (PI.mk ⟨by unfold shI; rw [ho], (Su.tr (Su.up (Su.up (Su.up (Su.tr (Su.rf σ) hS26) rfl) rfl) rfl) hS34.s11.su)⟩)
      · skip
        refine r_iconst hX (nI 0) dX10_showOf_58 rfl ?_
        refine r_goto hX dX10_showOf_59 ?_
        refine r_astN hX dX10_showOf_74 (hM.1 9 (10, 26) rfl) (by decide) (by decide) ?_
        refine r_aload_n hX dX10_showOf_75 rfl ?_
        refine r_getR hX dX10_showOf_76 fl_X10_35 (hM.1 0 (9, 0) rfl) rfl (hM.2 19 9 rfl) ?_
        refine r_iconst hX (nI 2) dX10_showOf_79 rfl ?_
        refine r_aload_n hX dX10_showOf_80 rfl ?_
        refine r_getIV hX dX10_showOf_81 fl_X10_149 (hM.1 0 (9, 0) rfl) rfl (nI (cw A 1 t (aW A))) (by rw [up_n (by omega), up_n (by omega)]; exact hU27.1) ?_
        refine r_astN hX dX10_showOf_84 (hM.1 9 (10, 26) rfl) (by decide) (by decide) ?_
        refine r_aload_n hX dX10_showOf_85 rfl ?_
        refine r_iload_n hX dX10_showOf_86 rfl ?_
        refine r_callVI (As := [.int (nI x)]) (rest := []) hX (c_X10_worth hM (up (up (up σ24 9 12 (nI (mn A t))) 9 22 (nI 0)) 9 2 (nI (cw A 1 t (aW A)))) A (by rw [up_row (by decide), up_row (by decide), up_row (by decide)]; exact hR28) hV x hx) dX10_showOf_87 cb_X10_117 (hM.1 0 (9, 0) rfl) rfl rfl ⟨Nat.le_of_ble_eq_true rfl, Nat.le_of_ble_eq_true rfl⟩ ⟨Nat.le_of_ble_eq_true rfl, Nat.le_of_ble_eq_true rfl⟩ (Nat.le_of_ble_eq_true rfl) (fun r37 σ38 h39 => ?_)
        obtain ⟨hE41, hS40⟩ := h39
        rw [evV_cong (okT_at hV hx) (g := fS A t) (fun i hi => by rw [hxk] at hi; rcases (show i = 12 ∨ i = 22 ∨ i = 2 by simp [ltr] at hi; omega) with rfl | rfl | rfl <;> simp [up, fS, wz, hmz, sW, sM, c30])] at hE41
        subst hE41
        have hR42 : RM (σ38 1) A := by rw [hS40.row (by decide)]; exact hR28
        exact r_ireturn hX hQ dX10_showOf_90 ⟨Nat.le_of_ble_eq_true rfl, Nat.le_of_ble_eq_true rfl⟩ (PI.mk ⟨by unfold shI; rw [ho], (Su.tr (Su.up (Su.up (Su.up (Su.tr (Su.rf σ) hS26) rfl) rfl) rfl) hS40.s11.su)⟩)

set_option maxHeartbeats 4000000 in
set_option maxRecDepth 100000 in
theorem c_X10_shows {l : Launch} {D : Ds} {L : La} (hM : MAt L) (σ : Me) (A : Al) (hR : RM (σ 1) A) (hV : Va A) : Ct l yX10_shows cX10_shows 3 none { frames := 7, cells := 0, slots := 0, locals := 158 } D L σ [.ref (L.1 0)] (PV L (fun σ2 => (∀ t, t < aT A → σ2 6 t = shI A t) ∧ Sm σ σ2)) := by
  refine Ct.of (by decide) (Nat.le_of_ble_eq_true rfl) ?_
  intro X hl hD hnl hX0 hQ
  have hX : Ok X cX10_shows RX10 "shows" { frames := 7, cells := 0, slots := 0, locals := 158 } none := hX0
  have hN1 : 1 < xn X := by rw [hnl]; decide
  have hN2 : 2 < xn X := by rw [hnl]; decide
  have hT := hV.1
  show At X L σ 0 0 [(0, .ref (L.1 0))] 0 []
  refine r_aload_n hX dX10_shows_0 rfl ?_
  refine r_iconst hX (nI 2) dX10_shows_1 rfl ?_
  refine r_callVF (As := [.int (nI 2)]) (rest := []) hX (c_X10_latest hM σ A hR hV 2 (by omega)) dX10_shows_2 cb_X10_110 (hM.1 0 (9, 0) rfl) rfl rfl ⟨Nat.le_of_ble_eq_true rfl, Nat.le_of_ble_eq_true rfl⟩ ⟨Nat.le_of_ble_eq_true rfl, Nat.le_of_ble_eq_true rfl⟩ (Nat.le_of_ble_eq_true rfl) ?_
  refine r_istore_n hX [(0, .ref (L.1 0)), (1, .int (oI (lst A 2 (aX A).length)))] dX10_shows_5 hN1 rfl ?_
  refine r_iconst hX (nI 0) dX10_shows_6 rfl ?_
  refine r_istore_n hX [(0, .ref (L.1 0)), (1, .int (oI (lst A 2 (aX A).length))), (2, .int (nI 0))] dX10_shows_7 hN2 rfl ?_
  have P1 : ∀ k, k ≤ aT A → ∀ (σk : Me) (hv : ∀ t, t < k → σk 6 t = shI A t) (hSk : Sm σ σk), At X L σk 0 0 [(0, .ref (L.1 0)), (1, .int (oI (lst A 2 (aX A).length))), (2, .int (nI k))] 8 [] := by
    refine loopUp (aT A) ?_ ?_
    · skip
      intro σk hv hSk
      have hRk := hSk.rm hR
      refine r_iload_n hX dX10_shows_8 rfl ?_
      refine r_aload_n hX dX10_shows_9 rfl ?_
      refine r_getR hX dX10_shows_10 fl_X10_9 (hM.1 0 (9, 0) rfl) rfl (hM.2 0 1 rfl) ?_
      refine r_iconst hX (nI 0) dX10_shows_13 rfl ?_
      refine r_aldN hX dX10_shows_14 (hM.1 1 (10, 1605) rfl) (by decide) (by decide) (nI (aT A)) hRk.1 ?_
      refine r_icmpN_ge hX dX10_shows_15 (by omega) (by omega) (fun c2 => ?_) (fun c2 => absurd c2 (by omega))
      exact r_return hX hQ dX10_shows_36 ⟨Nat.le_of_ble_eq_true rfl, Nat.le_of_ble_eq_true rfl⟩ (PV.mk ⟨hv, hSk⟩)
    · skip
      intro k hk ih3 σk hv hSk
      have hRk := hSk.rm hR
      refine r_iload_n hX dX10_shows_8 rfl ?_
      refine r_aload_n hX dX10_shows_9 rfl ?_
      refine r_getR hX dX10_shows_10 fl_X10_9 (hM.1 0 (9, 0) rfl) rfl (hM.2 0 1 rfl) ?_
      refine r_iconst hX (nI 0) dX10_shows_13 rfl ?_
      refine r_aldN hX dX10_shows_14 (hM.1 1 (10, 1605) rfl) (by decide) (by decide) (nI (aT A)) hRk.1 ?_
      refine r_icmpN_ge hX dX10_shows_15 (by omega) (by omega) (fun c4 => absurd c4 (by omega)) (fun c4 => ?_)
      refine r_aload_n hX dX10_shows_18 rfl ?_
      refine r_getR hX dX10_shows_19 fl_X10_25 (hM.1 0 (9, 0) rfl) rfl (hM.2 14 6 rfl) ?_
      refine r_iload_n hX dX10_shows_22 rfl ?_
      refine r_aload_n hX dX10_shows_23 rfl ?_
      refine r_iload_n hX dX10_shows_24 rfl ?_
      refine r_iload_n hX dX10_shows_25 rfl ?_
      refine r_callVI (As := [.int (nI k), .int (oI (lst A 2 (aX A).length))]) (rest := [.int (nI k), .ref (L.1 6)]) hX (c_X10_showOf hM σk A hRk hV k (by omega) _ rfl) dX10_shows_26 cb_X10_184 (hM.1 0 (9, 0) rfl) rfl rfl ⟨Nat.le_of_ble_eq_true rfl, Nat.le_of_ble_eq_true rfl⟩ ⟨Nat.le_of_ble_eq_true rfl, Nat.le_of_ble_eq_true rfl⟩ (Nat.le_of_ble_eq_true rfl) (fun r5 σ6 h7 => ?_)
      obtain ⟨rfl, hS8⟩ := h7
      have hR9 := hS8.rm hRk
      refine r_astN hX dX10_shows_29 (hM.1 6 (10, 6) rfl) (by decide) (by omega) ?_
      refine r_iincN (n := 1) hX [(0, .ref (L.1 0)), (1, .int (oI (lst A 2 (aX A).length))), (2, .int (nI (k + 1)))] dX10_shows_30 rfl hN2 rfl ?_
      refine r_goto hX dX10_shows_33 ?_
      exact At.to (ih3 _ (shown_s (fun t h => by rw [hS8.row (fun _ => rfl)]; exact hv t h)) (Sm.up (Sm.tr hSk hS8.sm) rfl)) rfl rfl rfl
  exact At.to (P1 0 (Nat.zero_le _) σ (fun t h => absurd h (Nat.not_lt_zero t)) (Sm.rf σ)) rfl rfl rfl

set_option maxHeartbeats 4000000 in
set_option maxRecDepth 100000 in
theorem c_X10_aheadOf {l : Launch} {D : Ds} {L : La} (hM : MAt L) (σ : Me) (A : Al) (hR : RM (σ 1) A) (hV : Va A) (th : Nat) (hth : th < aT A) (V : Nat → Int32) (hv6 : ∀ t, t < aT A → σ 6 t = V t) : Ct l yX10_aheadOf cX10_aheadOf 4 (some .int) { frames := 0, cells := 0, slots := 0, locals := 0 } D L σ [.ref (L.1 0), .int (nI th)] (PF L σ (nI (ahd V th (aT A)))) := by
  refine Ct.of (by decide) (Nat.le_of_ble_eq_true rfl) ?_
  intro X hl hD hnl hX0 hQ
  have hX : Ok X cX10_aheadOf RX10 "aheadOf" { frames := 0, cells := 0, slots := 0, locals := 0 } (some .int) := hX0
  have hN2 : 2 < xn X := by rw [hnl]; decide
  have hN3 : 3 < xn X := by rw [hnl]; decide
  have hT := hV.1
  show At X L σ 0 0 [(0, .ref (L.1 0)), (1, .int (nI th))] 0 []
  refine r_iconst hX (nI 0) dX10_aheadOf_0 rfl ?_
  refine r_istore_n hX [(0, .ref (L.1 0)), (1, .int (nI th)), (2, .int (nI 0))] dX10_aheadOf_1 hN2 rfl ?_
  refine r_iconst hX (nI 0) dX10_aheadOf_2 rfl ?_
  refine r_istore_n hX [(0, .ref (L.1 0)), (1, .int (nI th)), (2, .int (nI 0)), (3, .int (nI 0))] dX10_aheadOf_3 hN3 rfl ?_
  have P1 : ∀ k, k ≤ aT A → At X L σ 0 0 [(0, .ref (L.1 0)), (1, .int (nI th)), (2, .int (nI (ahd V th k))), (3, .int (nI k))] 4 [] := by
    refine loopUp (aT A) ?_ ?_
    · skip
      refine r_iload_n hX dX10_aheadOf_4 rfl ?_
      refine r_aload_n hX dX10_aheadOf_5 rfl ?_
      refine r_getR hX dX10_aheadOf_6 fl_X10_9 (hM.1 0 (9, 0) rfl) rfl (hM.2 0 1 rfl) ?_
      refine r_iconst hX (nI 0) dX10_aheadOf_9 rfl ?_
      refine r_aldN hX dX10_aheadOf_10 (hM.1 1 (10, 1605) rfl) (by decide) (by decide) (nI (aT A)) hR.1 ?_
      refine r_icmpN_ge hX dX10_aheadOf_11 (by omega) (by omega) (fun c2 => ?_) (fun c2 => absurd c2 (by omega))
      refine r_iload_n hX dX10_aheadOf_63 rfl ?_
      exact r_ireturn hX hQ dX10_aheadOf_64 ⟨Nat.le_of_ble_eq_true rfl, Nat.le_of_ble_eq_true rfl⟩ (PF.mk rfl)
    · skip
      intro k hk ih3
      refine r_iload_n hX dX10_aheadOf_4 rfl ?_
      refine r_aload_n hX dX10_aheadOf_5 rfl ?_
      refine r_getR hX dX10_aheadOf_6 fl_X10_9 (hM.1 0 (9, 0) rfl) rfl (hM.2 0 1 rfl) ?_
      refine r_iconst hX (nI 0) dX10_aheadOf_9 rfl ?_
      refine r_aldN hX dX10_aheadOf_10 (hM.1 1 (10, 1605) rfl) (by decide) (by decide) (nI (aT A)) hR.1 ?_
      refine r_icmpN_ge hX dX10_aheadOf_11 (by omega) (by omega) (fun c4 => absurd c4 (by omega)) (fun c4 => ?_)
      refine r_iload_n hX dX10_aheadOf_14 rfl ?_
      refine r_aload_n hX dX10_aheadOf_15 rfl ?_
      refine r_getR hX dX10_aheadOf_16 fl_X10_25 (hM.1 0 (9, 0) rfl) rfl (hM.2 14 6 rfl) ?_
      refine r_iload_n hX dX10_aheadOf_19 rfl ?_
      refine r_aldN hX dX10_aheadOf_20 (hM.1 6 (10, 6) rfl) (by decide) (by omega) (V k) (hv6 _ hk) ?_
      refine r_aload_n hX dX10_aheadOf_21 rfl ?_
      refine r_getR hX dX10_aheadOf_22 fl_X10_25 (hM.1 0 (9, 0) rfl) rfl (hM.2 14 6 rfl) ?_
      refine r_iload_n hX dX10_aheadOf_25 rfl ?_
      refine r_aldN hX dX10_aheadOf_26 (hM.1 6 (10, 6) rfl) (by decide) (by omega) (V th) (hv6 _ hth) ?_
      refine r_icmp_gt hX dX10_aheadOf_27 (fun c5 => ?_) (fun c5 => ?_)
      · skip
        refine r_iconst hX (nI 1) dX10_aheadOf_50 rfl ?_
        refine r_goto hX dX10_aheadOf_51 ?_
        refine r_iaddN hX dX10_aheadOf_55 ?_
        refine r_istore_n hX [(0, .ref (L.1 0)), (1, .int (nI th)), (2, .int (nI (ahd V th k + 1))), (3, .int (nI k))] dX10_aheadOf_56 hN2 rfl ?_
        refine r_iincN (n := 1) hX [(0, .ref (L.1 0)), (1, .int (nI th)), (2, .int (nI (ahd V th k + 1))), (3, .int (nI (k + 1)))] dX10_aheadOf_57 rfl hN3 rfl ?_
        refine r_goto hX dX10_aheadOf_60 ?_
        have q6 : ahd V th (k + 1) = ahd V th k + 1 := (by rw [ahd, if_pos (Or.inl c5)])
        exact At.to ih3 (by rw [q6]) rfl rfl
      · skip
        refine r_aload_n hX dX10_aheadOf_30 rfl ?_
        refine r_getR hX dX10_aheadOf_31 fl_X10_25 (hM.1 0 (9, 0) rfl) rfl (hM.2 14 6 rfl) ?_
        refine r_iload_n hX dX10_aheadOf_34 rfl ?_
        refine r_aldN hX dX10_aheadOf_35 (hM.1 6 (10, 6) rfl) (by decide) (by omega) (V k) (hv6 _ hk) ?_
        refine r_aload_n hX dX10_aheadOf_36 rfl ?_
        refine r_getR hX dX10_aheadOf_37 fl_X10_25 (hM.1 0 (9, 0) rfl) rfl (hM.2 14 6 rfl) ?_
        refine r_iload_n hX dX10_aheadOf_40 rfl ?_
        refine r_aldN hX dX10_aheadOf_41 (hM.1 6 (10, 6) rfl) (by decide) (by omega) (V th) (hv6 _ hth) ?_
        refine r_icmp_ne hX dX10_aheadOf_42 (fun c7 => ?_) (fun c7 => ?_)
        · skip
          refine r_iconst hX (nI 0) dX10_aheadOf_54 rfl ?_
          refine r_iaddN hX dX10_aheadOf_55 ?_
          refine r_istore_n hX [(0, .ref (L.1 0)), (1, .int (nI th)), (2, .int (nI (ahd V th k + 0))), (3, .int (nI k))] dX10_aheadOf_56 hN2 rfl ?_
          refine r_iincN (n := 1) hX [(0, .ref (L.1 0)), (1, .int (nI th)), (2, .int (nI (ahd V th k + 0))), (3, .int (nI (k + 1)))] dX10_aheadOf_57 rfl hN3 rfl ?_
          refine r_goto hX dX10_aheadOf_60 ?_
          have q8 : ahd V th (k + 1) = ahd V th k + 0 := (by rw [ahd, if_neg (fun q => q.elim c5 (fun q => c7 q.1))])
          exact At.to ih3 (by rw [q8]) rfl rfl
        · skip
          refine r_iload_n hX dX10_aheadOf_45 rfl ?_
          refine r_iload_n hX dX10_aheadOf_46 rfl ?_
          refine r_icmpN_ge hX dX10_aheadOf_47 (by omega) (by omega) (fun c9 => ?_) (fun c9 => ?_)
          · skip
            refine r_iconst hX (nI 0) dX10_aheadOf_54 rfl ?_
            refine r_iaddN hX dX10_aheadOf_55 ?_
            refine r_istore_n hX [(0, .ref (L.1 0)), (1, .int (nI th)), (2, .int (nI (ahd V th k + 0))), (3, .int (nI k))] dX10_aheadOf_56 hN2 rfl ?_
            refine r_iincN (n := 1) hX [(0, .ref (L.1 0)), (1, .int (nI th)), (2, .int (nI (ahd V th k + 0))), (3, .int (nI (k + 1)))] dX10_aheadOf_57 rfl hN3 rfl ?_
            refine r_goto hX dX10_aheadOf_60 ?_
            have q10 : ahd V th (k + 1) = ahd V th k + 0 := (by rw [ahd, if_neg (fun q => q.elim c5 (fun q => absurd q.2 (by omega)))])
            exact At.to ih3 (by rw [q10]) rfl rfl
          · skip
            refine r_iconst hX (nI 1) dX10_aheadOf_50 rfl ?_
            refine r_goto hX dX10_aheadOf_51 ?_
            refine r_iaddN hX dX10_aheadOf_55 ?_
            refine r_istore_n hX [(0, .ref (L.1 0)), (1, .int (nI th)), (2, .int (nI (ahd V th k + 1))), (3, .int (nI k))] dX10_aheadOf_56 hN2 rfl ?_
            refine r_iincN (n := 1) hX [(0, .ref (L.1 0)), (1, .int (nI th)), (2, .int (nI (ahd V th k + 1))), (3, .int (nI (k + 1)))] dX10_aheadOf_57 rfl hN3 rfl ?_
            refine r_goto hX dX10_aheadOf_60 ?_
            have q11 : ahd V th (k + 1) = ahd V th k + 1 := (by rw [ahd, if_pos (Or.inr ⟨c7, c9⟩)])
            exact At.to ih3 (by rw [q11]) rfl rfl
  exact At.to (P1 0 (Nat.zero_le _)) rfl rfl rfl

set_option maxHeartbeats 4000000 in
set_option maxRecDepth 100000 in
theorem c_X10_placeOf {l : Launch} {D : Ds} {L : La} (hM : MAt L) (σ : Me) (A : Al) (hR : RM (σ 1) A) (hV : Va A) (th : Nat) (hth : th < aT A) : Ct l yX10_placeOf cX10_placeOf 2 (some .int) { frames := 8, cells := 0, slots := 0, locals := 180 } D L σ [.ref (L.1 0), .int (nI th)] (PI L (fun r σ2 => r = nI (ahd (shI A) th (aT A)) ∧ Sm σ σ2)) := by
  refine Ct.of (by decide) (Nat.le_of_ble_eq_true rfl) ?_
  intro X hl hD hnl hX0 hQ
  have hX : Ok X cX10_placeOf RX10 "placeOf" { frames := 8, cells := 0, slots := 0, locals := 180 } (some .int) := hX0
  show At X L σ 0 0 [(0, .ref (L.1 0)), (1, .int (nI th))] 0 []
  refine r_aload_n hX dX10_placeOf_0 rfl ?_
  refine r_callVV (As := []) (rest := []) hX (c_X10_shows hM σ A hR hV) dX10_placeOf_1 cb_X10_187 (hM.1 0 (9, 0) rfl) rfl rfl ⟨Nat.le_of_ble_eq_true rfl, Nat.le_of_ble_eq_true rfl⟩ ⟨Nat.le_of_ble_eq_true rfl, Nat.le_of_ble_eq_true rfl⟩ (Nat.le_of_ble_eq_true rfl) (fun σ1 h2 => ?_)
  obtain ⟨hv4, hS3⟩ := h2
  have hR5 := hS3.rm hR
  refine r_aload_n hX dX10_placeOf_4 rfl ?_
  refine r_iload_n hX dX10_placeOf_5 rfl ?_
  refine r_callVF (As := [.int (nI th)]) (rest := []) hX (c_X10_aheadOf hM σ1 A hR5 hV th (by omega) (shI A) hv4) dX10_placeOf_6 cb_X10_190 (hM.1 0 (9, 0) rfl) rfl rfl ⟨Nat.le_of_ble_eq_true rfl, Nat.le_of_ble_eq_true rfl⟩ ⟨Nat.le_of_ble_eq_true rfl, Nat.le_of_ble_eq_true rfl⟩ (Nat.le_of_ble_eq_true rfl) ?_
  exact r_ireturn hX hQ dX10_placeOf_9 ⟨Nat.le_of_ble_eq_true rfl, Nat.le_of_ble_eq_true rfl⟩ (PI.mk ⟨rfl, (Sm.tr (Sm.rf σ) hS3)⟩)

set_option maxHeartbeats 4000000 in
set_option maxRecDepth 100000 in
theorem c_X10_shelfAt {l : Launch} {D : Ds} {L : La} (hM : MAt L) (σ : Me) (A : Al) (hR : RM (σ 1) A) (hV : Va A) (p : Int32) : Ct l yX10_shelfAt cX10_shelfAt 4 (some .int) { frames := 8, cells := 0, slots := 0, locals := 180 } D L σ [.ref (L.1 0), .int p] (PI L (fun r σ2 => r = shf (shI A) (aT A) p (aT A) ∧ Sm σ σ2)) := by
  refine Ct.of (by decide) (Nat.le_of_ble_eq_true rfl) ?_
  intro X hl hD hnl hX0 hQ
  have hX : Ok X cX10_shelfAt RX10 "shelfAt" { frames := 8, cells := 0, slots := 0, locals := 180 } (some .int) := hX0
  have hN2 : 2 < xn X := by rw [hnl]; decide
  have hN3 : 3 < xn X := by rw [hnl]; decide
  have hT := hV.1
  show At X L σ 0 0 [(0, .ref (L.1 0)), (1, .int p)] 0 []
  refine r_aload_n hX dX10_shelfAt_0 rfl ?_
  refine r_callVV (As := []) (rest := []) hX (c_X10_shows hM σ A hR hV) dX10_shelfAt_1 cb_X10_187 (hM.1 0 (9, 0) rfl) rfl rfl ⟨Nat.le_of_ble_eq_true rfl, Nat.le_of_ble_eq_true rfl⟩ ⟨Nat.le_of_ble_eq_true rfl, Nat.le_of_ble_eq_true rfl⟩ (Nat.le_of_ble_eq_true rfl) (fun σ1 h2 => ?_)
  obtain ⟨hv4, hS3⟩ := h2
  have hR5 := hS3.rm hR
  refine r_ldc hX dX10_shelfAt_4 ko_X10_92 ?_
  refine r_istore_n hX [(0, .ref (L.1 0)), (1, .int p), (2, .int (-1000000005))] dX10_shelfAt_6 hN2 rfl ?_
  refine r_iconst hX (nI 0) dX10_shelfAt_7 rfl ?_
  refine r_istore_n hX [(0, .ref (L.1 0)), (1, .int p), (2, .int (-1000000005)), (3, .int (nI 0))] dX10_shelfAt_8 hN3 rfl ?_
  have P6 : ∀ k, k ≤ aT A → At X L σ1 0 0 [(0, .ref (L.1 0)), (1, .int p), (2, .int (shf (shI A) (aT A) p k)), (3, .int (nI k))] 9 [] := by
    refine loopUp (aT A) ?_ ?_
    · skip
      refine r_iload_n hX dX10_shelfAt_9 rfl ?_
      refine r_aload_n hX dX10_shelfAt_10 rfl ?_
      refine r_getR hX dX10_shelfAt_11 fl_X10_9 (hM.1 0 (9, 0) rfl) rfl (hM.2 0 1 rfl) ?_
      refine r_iconst hX (nI 0) dX10_shelfAt_14 rfl ?_
      refine r_aldN hX dX10_shelfAt_15 (hM.1 1 (10, 1605) rfl) (by decide) (by decide) (nI (aT A)) hR5.1 ?_
      refine r_icmpN_ge hX dX10_shelfAt_16 (by omega) (by omega) (fun c7 => ?_) (fun c7 => absurd c7 (by omega))
      refine r_iload_n hX dX10_shelfAt_40 rfl ?_
      exact r_ireturn hX hQ dX10_shelfAt_41 ⟨Nat.le_of_ble_eq_true rfl, Nat.le_of_ble_eq_true rfl⟩ (PI.mk ⟨rfl, (Sm.tr (Sm.rf σ) hS3)⟩)
    · skip
      intro k hk ih8
      refine r_iload_n hX dX10_shelfAt_9 rfl ?_
      refine r_aload_n hX dX10_shelfAt_10 rfl ?_
      refine r_getR hX dX10_shelfAt_11 fl_X10_9 (hM.1 0 (9, 0) rfl) rfl (hM.2 0 1 rfl) ?_
      refine r_iconst hX (nI 0) dX10_shelfAt_14 rfl ?_
      refine r_aldN hX dX10_shelfAt_15 (hM.1 1 (10, 1605) rfl) (by decide) (by decide) (nI (aT A)) hR5.1 ?_
      refine r_icmpN_ge hX dX10_shelfAt_16 (by omega) (by omega) (fun c9 => absurd c9 (by omega)) (fun c9 => ?_)
      refine r_aload_n hX dX10_shelfAt_19 rfl ?_
      refine r_iload_n hX dX10_shelfAt_20 rfl ?_
      refine r_callVF (As := [.int (nI k)]) (rest := []) hX (c_X10_aheadOf hM σ1 A hR5 hV k (by omega) (shI A) hv4) dX10_shelfAt_21 cb_X10_190 (hM.1 0 (9, 0) rfl) rfl rfl ⟨Nat.le_of_ble_eq_true rfl, Nat.le_of_ble_eq_true rfl⟩ ⟨Nat.le_of_ble_eq_true rfl, Nat.le_of_ble_eq_true rfl⟩ (Nat.le_of_ble_eq_true rfl) ?_
      refine r_iload_n hX dX10_shelfAt_24 rfl ?_
      refine r_icmp_ne hX dX10_shelfAt_25 (fun c10 => ?_) (fun c10 => ?_)
      · skip
        refine r_iload_n hX dX10_shelfAt_32 rfl ?_
        refine r_istore_n hX [(0, .ref (L.1 0)), (1, .int p), (2, .int (shf (shI A) (aT A) p k)), (3, .int (nI k))] dX10_shelfAt_33 hN2 rfl ?_
        refine r_iincN (n := 1) hX [(0, .ref (L.1 0)), (1, .int p), (2, .int (shf (shI A) (aT A) p k)), (3, .int (nI (k + 1)))] dX10_shelfAt_34 rfl hN3 rfl ?_
        refine r_goto hX dX10_shelfAt_37 ?_
        have q11 : (shf (shI A) (aT A) p (k + 1)) = (shf (shI A) (aT A) p k) := (by rw [shf, if_neg c10]; try rfl)
        exact At.to ih8 (by rw [q11]) rfl rfl
      · skip
        refine r_iload_n hX dX10_shelfAt_28 rfl ?_
        refine r_goto hX dX10_shelfAt_29 ?_
        refine r_istore_n hX [(0, .ref (L.1 0)), (1, .int p), (2, .int (nI k)), (3, .int (nI k))] dX10_shelfAt_33 hN2 rfl ?_
        refine r_iincN (n := 1) hX [(0, .ref (L.1 0)), (1, .int p), (2, .int (nI k)), (3, .int (nI (k + 1)))] dX10_shelfAt_34 rfl hN3 rfl ?_
        refine r_goto hX dX10_shelfAt_37 ?_
        have q12 : (shf (shI A) (aT A) p (k + 1)) = nI k := (by rw [shf, if_pos c10]; try rfl)
        exact At.to ih8 (by rw [q12]) rfl rfl
  exact At.to (P6 0 (Nat.zero_le _)) rfl rfl rfl
