set_option maxHeartbeats 4000000 in
set_option maxRecDepth 100000 in
theorem c_X10_weight {l : Launch} {D : Ds} {L : La} (hM : MAt L) (σ : Me) (A : Al) (hR : RM (σ 1) A) (hV : Va A) (w : Nat) (hw : w < aW A) : Ct l yX10_weight cX10_weight 3 (some .int) { frames := 4, cells := 0, slots := 0, locals := 89 } D L σ [.ref (L.1 0), .int (nI w)] (PI L (fun r σ2 => r = nI (wtN A w) ∧ Sw σ σ2)) := by
  refine Ct.of (by decide) (Nat.le_of_ble_eq_true rfl) ?_
  intro X hl hD hnl hX0 hQ
  have hX : Ok X cX10_weight RX10 "weight" { frames := 4, cells := 0, slots := 0, locals := 89 } (some .int) := hX0
  have hN2 : 2 < xn X := by rw [hnl]; decide
  have hwf := hV.2.2.2.2.2.2.1 w hw
  have hW := hV.2.2.1
  have hp := pwN_le A w
  show At X L σ 0 0 [(0, .ref (L.1 0)), (1, .int (nI w))] 0 []
  refine r_aload_n hX dX10_weight_0 rfl ?_
  refine r_iload_n hX dX10_weight_1 rfl ?_
  refine r_callVI (As := [.int (nI w)]) (rest := []) hX (c_X10_plainWeight hM σ A hR hV w (by omega)) dX10_weight_2 cb_X10_123 (hM.1 0 (9, 0) rfl) rfl rfl ⟨Nat.le_of_ble_eq_true rfl, Nat.le_of_ble_eq_true rfl⟩ ⟨Nat.le_of_ble_eq_true rfl, Nat.le_of_ble_eq_true rfl⟩ (Nat.le_of_ble_eq_true rfl) (fun r1 σ2 h3 => ?_)
  obtain ⟨rfl, hS4⟩ := h3
  have hR5 := hS4.rm hR
  refine r_istore_n hX [(0, .ref (L.1 0)), (1, .int (nI w)), (2, .int (nI (pwN A w)))] dX10_weight_5 hN2 rfl ?_
  refine r_aload_n hX dX10_weight_6 rfl ?_
  refine r_iload_n hX dX10_weight_7 rfl ?_
  refine r_iconst hX (nI 0) dX10_weight_8 rfl ?_
  refine r_callVF (As := [.int (nI w), .int (nI 0)]) (rest := []) hX (c_X10_ofA hM σ2 A hR5 hV w 0 (by omega) (by omega)) dX10_weight_9 cb_X10_74 (hM.1 0 (9, 0) rfl) rfl rfl ⟨Nat.le_of_ble_eq_true rfl, Nat.le_of_ble_eq_true rfl⟩ ⟨Nat.le_of_ble_eq_true rfl, Nat.le_of_ble_eq_true rfl⟩ (Nat.le_of_ble_eq_true rfl) ?_
  obtain ⟨kd, hkd⟩ : ∃ z, z = aF A w 0 := ⟨_, rfl⟩
  rw [← hkd]
  have hkd5 : kd ≤ 5 := by omega
  rcases (show kd = 0 ∨ kd = 1 ∨ kd = 2 ∨ kd = 3 ∨ kd = 4 ∨ kd = 5 from (by omega)) with rfl | rfl | rfl | rfl | rfl | rfl
  · skip
    refine r_tabOut hX 95 dX10_weight_12 (by rw [nI_toInt (by decide)]; decide) (by decide) ?_
    refine r_iload_n hX dX10_weight_95 rfl ?_
    exact r_ireturn hX hQ dX10_weight_96 ⟨Nat.le_of_ble_eq_true rfl, Nat.le_of_ble_eq_true rfl⟩ (PI.mk ⟨by unfold wtN; rw [← hkd]; simp [wkN]; try grind, (Sw.tr (Sw.rf σ) hS4)⟩)
  · skip
    refine r_tabInN (v := 1) hX 48 dX10_weight_12 (by decide) (by decide) (by decide) 36 rfl (by decide) ?_
    refine r_iload_n hX dX10_weight_48 rfl ?_
    refine r_iconst hX (nI 1) dX10_weight_49 rfl ?_
    refine r_iaddN hX dX10_weight_50 ?_
    exact r_ireturn hX hQ dX10_weight_51 ⟨Nat.le_of_ble_eq_true rfl, Nat.le_of_ble_eq_true rfl⟩ (PI.mk ⟨by unfold wtN; rw [← hkd]; simp [wkN]; try grind, (Sw.tr (Sw.rf σ) hS4)⟩)
  · skip
    refine r_tabInN (v := 2) hX 58 dX10_weight_12 (by decide) (by decide) (by decide) 46 rfl (by decide) ?_
    refine r_iload_n hX dX10_weight_58 rfl ?_
    refine r_ifN_le hX dX10_weight_59 (by omega) (fun c6 => ?_) (fun c6 => ?_)
    · skip
      refine r_iconst hX (nI 0) dX10_weight_68 rfl ?_
      exact r_ireturn hX hQ dX10_weight_69 ⟨Nat.le_of_ble_eq_true rfl, Nat.le_of_ble_eq_true rfl⟩ (PI.mk ⟨by unfold wtN; rw [← hkd]; simp [wkN]; try grind, (Sw.tr (Sw.rf σ) hS4)⟩)
    · skip
      refine r_iload_n hX dX10_weight_62 rfl ?_
      refine r_iconst hX (nI 1) dX10_weight_63 rfl ?_
      refine r_isubN hX dX10_weight_64 (by omega) ?_
      refine r_goto hX dX10_weight_65 ?_
      exact r_ireturn hX hQ dX10_weight_69 ⟨Nat.le_of_ble_eq_true rfl, Nat.le_of_ble_eq_true rfl⟩ (PI.mk ⟨by unfold wtN; rw [← hkd]; simp [wkN]; try grind, (Sw.tr (Sw.rf σ) hS4)⟩)
  · skip
    refine r_tabInN (v := 3) hX 52 dX10_weight_12 (by decide) (by decide) (by decide) 40 rfl (by decide) ?_
    refine r_iload_n hX dX10_weight_52 rfl ?_
    refine r_iconst hX (nI 1) dX10_weight_53 rfl ?_
    refine r_iaddN hX dX10_weight_54 ?_
    refine r_iconst hX (nI 2) dX10_weight_55 rfl ?_
    refine r_idivN hX dX10_weight_56 (by omega) (by decide) (by decide) ?_
    exact r_ireturn hX hQ dX10_weight_57 ⟨Nat.le_of_ble_eq_true rfl, Nat.le_of_ble_eq_true rfl⟩ (PI.mk ⟨by unfold wtN; rw [← hkd]; simp [wkN]; try grind, (Sw.tr (Sw.rf σ) hS4)⟩)
  · skip
    refine r_tabInN (v := 4) hX 70 dX10_weight_12 (by decide) (by decide) (by decide) 58 rfl (by decide) ?_
    refine r_aload_n hX dX10_weight_70 rfl ?_
    refine r_iload_n hX dX10_weight_71 rfl ?_
    refine r_iconst hX (nI 3) dX10_weight_72 rfl ?_
    refine r_callVF (As := [.int (nI w), .int (nI 3)]) (rest := []) hX (c_X10_ofA hM σ2 A hR5 hV w 3 (by omega) (by omega)) dX10_weight_73 cb_X10_74 (hM.1 0 (9, 0) rfl) rfl rfl ⟨Nat.le_of_ble_eq_true rfl, Nat.le_of_ble_eq_true rfl⟩ ⟨Nat.le_of_ble_eq_true rfl, Nat.le_of_ble_eq_true rfl⟩ (Nat.le_of_ble_eq_true rfl) ?_
    refine r_iconst hX (nI 2) dX10_weight_76 rfl ?_
    refine r_iremN hX dX10_weight_77 (by omega) (by decide) (by decide) ?_
    refine r_ifN_ne hX dX10_weight_78 (by omega) (fun c7 => ?_) (fun c7 => ?_)
    · skip
      refine r_iconst hX (nI 0) dX10_weight_91 rfl ?_
      exact r_ireturn hX hQ dX10_weight_92 ⟨Nat.le_of_ble_eq_true rfl, Nat.le_of_ble_eq_true rfl⟩ (PI.mk ⟨by unfold wtN; rw [← hkd]; simp [wkN]; try grind, (Sw.tr (Sw.rf σ) hS4)⟩)
    · skip
      refine r_iload_n hX dX10_weight_81 rfl ?_
      refine r_ifN_le hX dX10_weight_82 (by omega) (fun c8 => ?_) (fun c8 => ?_)
      · skip
        refine r_iconst hX (nI 0) dX10_weight_91 rfl ?_
        exact r_ireturn hX hQ dX10_weight_92 ⟨Nat.le_of_ble_eq_true rfl, Nat.le_of_ble_eq_true rfl⟩ (PI.mk ⟨by unfold wtN; rw [← hkd]; simp [wkN]; try grind, (Sw.tr (Sw.rf σ) hS4)⟩)
      · skip
        refine r_iload_n hX dX10_weight_85 rfl ?_
        refine r_iconst hX (nI 1) dX10_weight_86 rfl ?_
        refine r_isubN hX dX10_weight_87 (by omega) ?_
        refine r_goto hX dX10_weight_88 ?_
        exact r_ireturn hX hQ dX10_weight_92 ⟨Nat.le_of_ble_eq_true rfl, Nat.le_of_ble_eq_true rfl⟩ (PI.mk ⟨by unfold wtN; rw [← hkd]; simp [wkN]; try grind, (Sw.tr (Sw.rf σ) hS4)⟩)
  · skip
    refine r_tabInN (v := 5) hX 93 dX10_weight_12 (by decide) (by decide) (by decide) 81 rfl (by decide) ?_
    refine r_iconst hX (nI 0) dX10_weight_93 rfl ?_
    exact r_ireturn hX hQ dX10_weight_94 ⟨Nat.le_of_ble_eq_true rfl, Nat.le_of_ble_eq_true rfl⟩ (PI.mk ⟨by unfold wtN; rw [← hkd]; simp [wkN]; try grind, (Sw.tr (Sw.rf σ) hS4)⟩)

set_option maxHeartbeats 4000000 in
set_option maxRecDepth 100000 in
theorem c_X10_starsOf {l : Launch} {D : Ds} {L : La} (hM : MAt L) (σ : Me) (A : Al) (hR : RM (σ 1) A) (hV : Va A) (t : Nat) (ht : t < 2 ^ 31) : Ct l yX10_starsOf cX10_starsOf 4 (some .int) { frames := 1, cells := 0, slots := 0, locals := 22 } D L σ [.ref (L.1 0), .int (nI t)] (PF L σ (nI (ss A 1 t (aW A)))) := by
  refine Ct.of (by decide) (Nat.le_of_ble_eq_true rfl) ?_
  intro X hl hD hnl hX0 hQ
  have hX : Ok X cX10_starsOf RX10 "starsOf" { frames := 1, cells := 0, slots := 0, locals := 22 } (some .int) := hX0
  have hN2 : 2 < xn X := by rw [hnl]; decide
  have hN3 : 3 < xn X := by rw [hnl]; decide
  have hW := hV.2.2.1
  show At X L σ 0 0 [(0, .ref (L.1 0)), (1, .int (nI t))] 0 []
  refine r_iconst hX (nI 0) dX10_starsOf_0 rfl ?_
  refine r_istore_n hX [(0, .ref (L.1 0)), (1, .int (nI t)), (2, .int (nI 0))] dX10_starsOf_1 hN2 rfl ?_
  refine r_iconst hX (nI 0) dX10_starsOf_2 rfl ?_
  refine r_istore_n hX [(0, .ref (L.1 0)), (1, .int (nI t)), (2, .int (nI 0)), (3, .int (nI 0))] dX10_starsOf_3 hN3 rfl ?_
  have P1 : ∀ k, k ≤ aW A → At X L σ 0 0 [(0, .ref (L.1 0)), (1, .int (nI t)), (2, .int (nI (ss A 1 t k))), (3, .int (nI k))] 4 [] := by
    refine loopUp (aW A) ?_ ?_
    · skip
      refine r_iload_n hX dX10_starsOf_4 rfl ?_
      refine r_aload_n hX dX10_starsOf_5 rfl ?_
      refine r_getR hX dX10_starsOf_6 fl_X10_9 (hM.1 0 (9, 0) rfl) rfl (hM.2 0 1 rfl) ?_
      refine r_iconst hX (nI 2) dX10_starsOf_9 rfl ?_
      refine r_aldN hX dX10_starsOf_10 (hM.1 1 (10, 1605) rfl) (by decide) (by decide) (nI (aW A)) hR.2.2.1 ?_
      refine r_icmpN_ge hX dX10_starsOf_11 (by omega) (by omega) (fun c2 => ?_) (fun c2 => absurd c2 (by omega))
      refine r_iload_n hX dX10_starsOf_43 rfl ?_
      exact r_ireturn hX hQ dX10_starsOf_44 ⟨Nat.le_of_ble_eq_true rfl, Nat.le_of_ble_eq_true rfl⟩ (PF.mk rfl)
    · skip
      intro k hk ih3
      have hb := va_sm hV hk (f := 1) (by decide)
      refine r_iload_n hX dX10_starsOf_4 rfl ?_
      refine r_aload_n hX dX10_starsOf_5 rfl ?_
      refine r_getR hX dX10_starsOf_6 fl_X10_9 (hM.1 0 (9, 0) rfl) rfl (hM.2 0 1 rfl) ?_
      refine r_iconst hX (nI 2) dX10_starsOf_9 rfl ?_
      refine r_aldN hX dX10_starsOf_10 (hM.1 1 (10, 1605) rfl) (by decide) (by decide) (nI (aW A)) hR.2.2.1 ?_
      refine r_icmpN_ge hX dX10_starsOf_11 (by omega) (by omega) (fun c4 => absurd c4 (by omega)) (fun c4 => ?_)
      refine r_iload_n hX dX10_starsOf_14 rfl ?_
      refine r_aload_n hX dX10_starsOf_15 rfl ?_
      refine r_iload_n hX dX10_starsOf_16 rfl ?_
      refine r_iconst hX (nI 1) dX10_starsOf_17 rfl ?_
      refine r_callVF (As := [.int (nI k), .int (nI 1)]) (rest := [.int (nI (ss A 1 t k))]) hX (c_X10_ofA hM σ A hR hV k 1 (by omega) (by omega)) dX10_starsOf_18 cb_X10_74 (hM.1 0 (9, 0) rfl) rfl rfl ⟨Nat.le_of_ble_eq_true rfl, Nat.le_of_ble_eq_true rfl⟩ ⟨Nat.le_of_ble_eq_true rfl, Nat.le_of_ble_eq_true rfl⟩ (Nat.le_of_ble_eq_true rfl) ?_
      refine r_iload_n hX dX10_starsOf_21 rfl ?_
      refine r_icmpN_ne hX dX10_starsOf_22 (by omega) (by omega) (fun c5 => ?_) (fun c5 => ?_)
      · skip
        refine r_iconst hX (nI 0) dX10_starsOf_34 rfl ?_
        refine r_iaddN hX dX10_starsOf_35 ?_
        refine r_istore_n hX [(0, .ref (L.1 0)), (1, .int (nI t)), (2, .int (nI (ss A 1 t k + 0))), (3, .int (nI k))] dX10_starsOf_36 hN2 rfl ?_
        refine r_iincN (n := 1) hX [(0, .ref (L.1 0)), (1, .int (nI t)), (2, .int (nI (ss A 1 t k + 0))), (3, .int (nI (k + 1)))] dX10_starsOf_37 rfl hN3 rfl ?_
        refine r_goto hX dX10_starsOf_40 ?_
        have q6 : ss A 1 t (k + 1) = ss A 1 t k + 0 := (by rw [ss, if_neg c5]; try rfl)
        exact At.to ih3 (by rw [q6]) rfl rfl
      · skip
        refine r_aload_n hX dX10_starsOf_25 rfl ?_
        refine r_iload_n hX dX10_starsOf_26 rfl ?_
        refine r_iconst hX (nI 4) dX10_starsOf_27 rfl ?_
        refine r_callVF (As := [.int (nI k), .int (nI 4)]) (rest := [.int (nI (ss A 1 t k))]) hX (c_X10_ofA hM σ A hR hV k 4 (by omega) (by omega)) dX10_starsOf_28 cb_X10_74 (hM.1 0 (9, 0) rfl) rfl rfl ⟨Nat.le_of_ble_eq_true rfl, Nat.le_of_ble_eq_true rfl⟩ ⟨Nat.le_of_ble_eq_true rfl, Nat.le_of_ble_eq_true rfl⟩ (Nat.le_of_ble_eq_true rfl) ?_
        refine r_goto hX dX10_starsOf_31 ?_
        refine r_iaddN hX dX10_starsOf_35 ?_
        refine r_istore_n hX [(0, .ref (L.1 0)), (1, .int (nI t)), (2, .int (nI (ss A 1 t k + (aF A k 4)))), (3, .int (nI k))] dX10_starsOf_36 hN2 rfl ?_
        refine r_iincN (n := 1) hX [(0, .ref (L.1 0)), (1, .int (nI t)), (2, .int (nI (ss A 1 t k + (aF A k 4)))), (3, .int (nI (k + 1)))] dX10_starsOf_37 rfl hN3 rfl ?_
        refine r_goto hX dX10_starsOf_40 ?_
        have q7 : ss A 1 t (k + 1) = ss A 1 t k + (aF A k 4) := (by rw [ss, if_pos c5]; try rfl)
        exact At.to ih3 (by rw [q7]) rfl rfl
  exact At.to (P1 0 (Nat.zero_le _)) rfl rfl rfl

set_option maxHeartbeats 4000000 in
set_option maxRecDepth 100000 in
theorem c_X10_meanOf {l : Launch} {D : Ds} {L : La} (hM : MAt L) (σ : Me) (A : Al) (hR : RM (σ 1) A) (hV : Va A) (t : Nat) (ht : t < 2 ^ 31) : Ct l yX10_meanOf cX10_meanOf 3 (some .int) { frames := 2, cells := 0, slots := 0, locals := 46 } D L σ [.ref (L.1 0), .int (nI t)] (PF L σ (mnI A t)) := by
  refine Ct.of (by decide) (Nat.le_of_ble_eq_true rfl) ?_
  intro X hl hD hnl hX0 hQ
  have hX : Ok X cX10_meanOf RX10 "meanOf" { frames := 2, cells := 0, slots := 0, locals := 46 } (some .int) := hX0
  have hN2 : 2 < xn X := by rw [hnl]; decide
  have hss := ss_le hV t
  have hcl := cw_le A 1 t (aW A)
  have hW := hV.2.2.1
  show At X L σ 0 0 [(0, .ref (L.1 0)), (1, .int (nI t))] 0 []
  refine r_aload_n hX dX10_meanOf_0 rfl ?_
  refine r_iconst hX (nI 1) dX10_meanOf_1 rfl ?_
  refine r_iload_n hX dX10_meanOf_2 rfl ?_
  refine r_callVF (As := [.int (nI 1), .int (nI t)]) (rest := []) hX (c_X10_wordsOf hM σ A hR hV 1 t (by omega) (by omega)) dX10_meanOf_3 cb_X10_82 (hM.1 0 (9, 0) rfl) rfl rfl ⟨Nat.le_of_ble_eq_true rfl, Nat.le_of_ble_eq_true rfl⟩ ⟨Nat.le_of_ble_eq_true rfl, Nat.le_of_ble_eq_true rfl⟩ (Nat.le_of_ble_eq_true rfl) ?_
  refine r_istore_n hX [(0, .ref (L.1 0)), (1, .int (nI t)), (2, .int (nI (cw A 1 t (aW A))))] dX10_meanOf_6 hN2 rfl ?_
  refine r_iload_n hX dX10_meanOf_7 rfl ?_
  refine r_ifN_ne hX dX10_meanOf_8 (by omega) (fun c1 => ?_) (fun c1 => ?_)
  · skip
    refine r_bipush hX (nI 100) dX10_meanOf_16 rfl ?_
    refine r_aload_n hX dX10_meanOf_18 rfl ?_
    refine r_iload_n hX dX10_meanOf_19 rfl ?_
    refine r_callVF (As := [.int (nI t)]) (rest := [.int (nI 100)]) hX (c_X10_starsOf hM σ A hR hV t (by omega)) dX10_meanOf_20 cb_X10_168 (hM.1 0 (9, 0) rfl) rfl rfl ⟨Nat.le_of_ble_eq_true rfl, Nat.le_of_ble_eq_true rfl⟩ ⟨Nat.le_of_ble_eq_true rfl, Nat.le_of_ble_eq_true rfl⟩ (Nat.le_of_ble_eq_true rfl) ?_
    refine r_imulN hX dX10_meanOf_23 ?_
    refine r_iload_n hX dX10_meanOf_24 rfl ?_
    refine r_idivN hX dX10_meanOf_25 (by omega) (by omega) (by omega) ?_
    exact r_ireturn hX hQ dX10_meanOf_26 ⟨Nat.le_of_ble_eq_true rfl, Nat.le_of_ble_eq_true rfl⟩ (PF.mk (mnI_1 (by omega)).symm)
  · skip
    refine r_ldc hX dX10_meanOf_11 ko_X10_92 ?_
    refine r_goto hX dX10_meanOf_13 ?_
    exact r_ireturn hX hQ dX10_meanOf_26 ⟨Nat.le_of_ble_eq_true rfl, Nat.le_of_ble_eq_true rfl⟩ (PF.mk (mnI_0 (by omega)).symm)

set_option maxHeartbeats 4000000 in
set_option maxRecDepth 100000 in
theorem c_X10_sums {l : Launch} {D : Ds} {L : La} (hM : MAt L) (σ : Me) (A : Al) (hR : RM (σ 1) A) (hV : Va A) (t : Nat) (ht : t < 2 ^ 31) : Ct l yX10_sums cX10_sums 5 none { frames := 5, cells := 0, slots := 0, locals := 111 } D L σ [.ref (L.1 0), .int (nI t)] (PV L (fun σ2 => Sums A t (aW A) σ2 ∧ Su σ σ2)) := by
  refine Ct.of (by decide) (Nat.le_of_ble_eq_true rfl) ?_
  intro X hl hD hnl hX0 hQ
  have hX : Ok X cX10_sums RX10 "sums" { frames := 5, cells := 0, slots := 0, locals := 111 } none := hX0
  have hN2 : 2 < xn X := by rw [hnl]; decide
  have hN3 : 3 < xn X := by rw [hnl]; decide
  have hN4 : 4 < xn X := by rw [hnl]; decide
  have hW := hV.2.2.1
  show At X L σ 0 0 [(0, .ref (L.1 0)), (1, .int (nI t))] 0 []
  refine r_aload_n hX dX10_sums_0 rfl ?_
  refine r_iconst hX (nI 0) dX10_sums_1 rfl ?_
  refine r_putI hX dX10_sums_2 fl_X10_149 (hM.1 0 (9, 0) rfl) rfl rfl rfl rfl ?_
  refine r_aload_n hX dX10_sums_5 rfl ?_
  refine r_iconst hX (nI 0) dX10_sums_6 rfl ?_
  refine r_putI hX dX10_sums_7 fl_X10_153 (hM.1 0 (9, 0) rfl) rfl rfl rfl rfl ?_
  refine r_aload_n hX dX10_sums_10 rfl ?_
  refine r_iconst hX (nI 0) dX10_sums_11 rfl ?_
  refine r_putI hX dX10_sums_12 fl_X10_156 (hM.1 0 (9, 0) rfl) rfl rfl rfl rfl ?_
  refine r_aload_n hX dX10_sums_15 rfl ?_
  refine r_iconst hX (nI 0) dX10_sums_16 rfl ?_
  refine r_putI hX dX10_sums_17 fl_X10_159 (hM.1 0 (9, 0) rfl) rfl rfl rfl rfl ?_
  refine r_aload_n hX dX10_sums_20 rfl ?_
  refine r_iconst hX (nI 0) dX10_sums_21 rfl ?_
  refine r_putI hX dX10_sums_22 fl_X10_162 (hM.1 0 (9, 0) rfl) rfl rfl rfl rfl ?_
  refine r_aload_n hX dX10_sums_25 rfl ?_
  refine r_iconst hX (nI 0) dX10_sums_26 rfl ?_
  refine r_putI hX dX10_sums_27 fl_X10_165 (hM.1 0 (9, 0) rfl) rfl rfl rfl rfl ?_
  refine r_iconst hX (nI 0) dX10_sums_30 rfl ?_
  refine r_istore_n hX [(0, .ref (L.1 0)), (1, .int (nI t)), (2, .int (nI 0))] dX10_sums_31 hN2 rfl ?_
  have P1 : ∀ k, k ≤ aW A → ∀ (σk : Me) (hSk : Su σ σk) (hU : Sums A t k σk), At X L σk 0 0 [(0, .ref (L.1 0)), (1, .int (nI t)), (2, .int (nI k))] 32 [] := by
    refine loopUp (aW A) ?_ ?_
    · skip
      intro σk hSk hU
      have hRk := hSk.rm hR
      refine r_iload_n hX dX10_sums_32 rfl ?_
      refine r_aload_n hX dX10_sums_33 rfl ?_
      refine r_getR hX dX10_sums_34 fl_X10_9 (hM.1 0 (9, 0) rfl) rfl (hM.2 0 1 rfl) ?_
      refine r_iconst hX (nI 2) dX10_sums_37 rfl ?_
      refine r_aldN hX dX10_sums_38 (hM.1 1 (10, 1605) rfl) (by decide) (by decide) (nI (aW A)) hRk.2.2.1 ?_
      refine r_icmpN_ge hX dX10_sums_39 (by omega) (by omega) (fun c2 => ?_) (fun c2 => absurd c2 (by omega))
      exact r_return hX hQ dX10_sums_160 ⟨Nat.le_of_ble_eq_true rfl, Nat.le_of_ble_eq_true rfl⟩ (PV.mk ⟨hU, hSk⟩)
    · skip
      intro k hk ih3 σk hSk hU
      have hRk := hSk.rm hR
      have hb := va_sm hV hk (f := 1) (by decide)
      have hwf := hV.2.2.2.2.2.2.1 k hk
      have g0 := cw_le A 1 t k
      have g1 := (ss_cw hV t k (by omega)).2
      have g2 := sW_le hV t k (by omega)
      have g3 := sM_le hV t k (by omega)
      have g4 := sG_le hV t k (by omega)
      have g5 := sS_le hV t k (by omega)
      refine r_iload_n hX dX10_sums_32 rfl ?_
      refine r_aload_n hX dX10_sums_33 rfl ?_
      refine r_getR hX dX10_sums_34 fl_X10_9 (hM.1 0 (9, 0) rfl) rfl (hM.2 0 1 rfl) ?_
      refine r_iconst hX (nI 2) dX10_sums_37 rfl ?_
      refine r_aldN hX dX10_sums_38 (hM.1 1 (10, 1605) rfl) (by decide) (by decide) (nI (aW A)) hRk.2.2.1 ?_
      refine r_icmpN_ge hX dX10_sums_39 (by omega) (by omega) (fun c4 => absurd c4 (by omega)) (fun c4 => ?_)
      refine r_aload_n hX dX10_sums_42 rfl ?_
      refine r_iload_n hX dX10_sums_43 rfl ?_
      refine r_iconst hX (nI 1) dX10_sums_44 rfl ?_
      refine r_callVF (As := [.int (nI k), .int (nI 1)]) (rest := []) hX (c_X10_ofA hM σk A hRk hV k 1 (by omega) (by omega)) dX10_sums_45 cb_X10_74 (hM.1 0 (9, 0) rfl) rfl rfl ⟨Nat.le_of_ble_eq_true rfl, Nat.le_of_ble_eq_true rfl⟩ ⟨Nat.le_of_ble_eq_true rfl, Nat.le_of_ble_eq_true rfl⟩ (Nat.le_of_ble_eq_true rfl) ?_
      refine r_iload_n hX dX10_sums_48 rfl ?_
      refine r_icmpN_eq hX dX10_sums_49 (by omega) (by omega) (fun c5 => ?_) (fun c5 => ?_)
      · skip
        refine r_aload_n hX dX10_sums_55 rfl ?_
        refine r_iload_n hX dX10_sums_56 rfl ?_
        refine r_callVI (As := [.int (nI k)]) (rest := []) hX (c_X10_weight hM σk A hRk hV k (by omega)) dX10_sums_57 cb_X10_129 (hM.1 0 (9, 0) rfl) rfl rfl ⟨Nat.le_of_ble_eq_true rfl, Nat.le_of_ble_eq_true rfl⟩ ⟨Nat.le_of_ble_eq_true rfl, Nat.le_of_ble_eq_true rfl⟩ (Nat.le_of_ble_eq_true rfl) (fun r6 σ7 h8 => ?_)
        obtain ⟨rfl, hS9⟩ := h8
        have hR10 := hS9.rm hRk
        have hU11 := Sums.rd hU (fun j => hS9 0 j (by decide) (by decide))
        refine r_istore_n hX [(0, .ref (L.1 0)), (1, .int (nI t)), (2, .int (nI k)), (3, .int (nI (wtN A k)))] dX10_sums_60 hN3 rfl ?_
        refine r_aload_n hX dX10_sums_61 rfl ?_
        refine r_iload_n hX dX10_sums_62 rfl ?_
        refine r_iconst hX (nI 0) dX10_sums_63 rfl ?_
        refine r_callVF (As := [.int (nI k), .int (nI 0)]) (rest := []) hX (c_X10_ofA hM σ7 A hR10 hV k 0 (by omega) (by omega)) dX10_sums_64 cb_X10_74 (hM.1 0 (9, 0) rfl) rfl rfl ⟨Nat.le_of_ble_eq_true rfl, Nat.le_of_ble_eq_true rfl⟩ ⟨Nat.le_of_ble_eq_true rfl, Nat.le_of_ble_eq_true rfl⟩ (Nat.le_of_ble_eq_true rfl) ?_
        refine r_aload_n hX dX10_sums_67 rfl ?_
        refine r_iload_n hX dX10_sums_68 rfl ?_
        refine r_iconst hX (nI 4) dX10_sums_69 rfl ?_
        refine r_callVF (As := [.int (nI k), .int (nI 4)]) (rest := [.int (nI (aF A k 0))]) hX (c_X10_ofA hM σ7 A hR10 hV k 4 (by omega) (by omega)) dX10_sums_70 cb_X10_74 (hM.1 0 (9, 0) rfl) rfl rfl ⟨Nat.le_of_ble_eq_true rfl, Nat.le_of_ble_eq_true rfl⟩ ⟨Nat.le_of_ble_eq_true rfl, Nat.le_of_ble_eq_true rfl⟩ (Nat.le_of_ble_eq_true rfl) ?_
        refine r_callSF (As := [.int (nI (aF A k 0)), .int (nI (aF A k 4))]) (rest := []) hX (c_X10_says σ7 (aF A k 0) (aF A k 4) (by omega) (by omega) (by omega)) dX10_sums_73 cb_X10_132 rfl rfl ⟨Nat.le_of_ble_eq_true rfl, Nat.le_of_ble_eq_true rfl⟩ ⟨Nat.le_of_ble_eq_true rfl, Nat.le_of_ble_eq_true rfl⟩ (Nat.le_of_ble_eq_true rfl) ?_
        refine r_istore hX [(0, .ref (L.1 0)), (1, .int (nI t)), (2, .int (nI k)), (3, .int (nI (wtN A k))), (4, .int (nI (sayN (aF A k 0) (aF A k 4))))] dX10_sums_76 hN4 rfl ?_
        refine r_aload_n hX dX10_sums_78 rfl ?_
        refine r_dup hX dX10_sums_79 rfl ?_
        refine r_getIV hX dX10_sums_80 fl_X10_149 (hM.1 0 (9, 0) rfl) rfl (nI (cw A 1 t k)) hU11.1 ?_
        refine r_iconst hX (nI 1) dX10_sums_83 rfl ?_
        refine r_iaddN hX dX10_sums_84 ?_
        refine r_putI hX dX10_sums_85 fl_X10_149 (hM.1 0 (9, 0) rfl) rfl rfl rfl rfl ?_
        refine r_aload_n hX dX10_sums_88 rfl ?_
        refine r_dup hX dX10_sums_89 rfl ?_
        refine r_getIV hX dX10_sums_90 fl_X10_153 (hM.1 0 (9, 0) rfl) rfl (nI (ss A 1 t k)) (by rw [up_n (by omega)]; exact hU11.2.1) ?_
        refine r_aload_n hX dX10_sums_93 rfl ?_
        refine r_iload_n hX dX10_sums_94 rfl ?_
        refine r_iconst hX (nI 4) dX10_sums_95 rfl ?_
        refine r_callVF (As := [.int (nI k), .int (nI 4)]) (rest := [.int (nI (ss A 1 t k)), .ref (L.1 0)]) hX (c_X10_ofA hM (up σ7 0 8 (nI (cw A 1 t k + 1))) A (by rw [up_row (by decide)]; exact hR10) hV k 4 (by omega) (by omega)) dX10_sums_96 cb_X10_74 (hM.1 0 (9, 0) rfl) rfl rfl ⟨Nat.le_of_ble_eq_true rfl, Nat.le_of_ble_eq_true rfl⟩ ⟨Nat.le_of_ble_eq_true rfl, Nat.le_of_ble_eq_true rfl⟩ (Nat.le_of_ble_eq_true rfl) ?_
        refine r_iaddN hX dX10_sums_99 ?_
        refine r_putI hX dX10_sums_100 fl_X10_153 (hM.1 0 (9, 0) rfl) rfl rfl rfl rfl ?_
        refine r_aload_n hX dX10_sums_103 rfl ?_
        refine r_dup hX dX10_sums_104 rfl ?_
        refine r_getIV hX dX10_sums_105 fl_X10_156 (hM.1 0 (9, 0) rfl) rfl (nI (sm A t (wtN A) k)) (by rw [up_n (by omega), up_n (by omega)]; exact hU11.2.2.1) ?_
        refine r_iload_n hX dX10_sums_108 rfl ?_
        refine r_iaddN hX dX10_sums_109 ?_
        refine r_putI hX dX10_sums_110 fl_X10_156 (hM.1 0 (9, 0) rfl) rfl rfl rfl rfl ?_
        refine r_aload_n hX dX10_sums_113 rfl ?_
        refine r_dup hX dX10_sums_114 rfl ?_
        refine r_getIV hX dX10_sums_115 fl_X10_159 (hM.1 0 (9, 0) rfl) rfl (nI (sm A t (gM A) k)) (by rw [up_n (by omega), up_n (by omega), up_n (by omega)]; exact hU11.2.2.2.1) ?_
        refine r_iload_n hX dX10_sums_118 rfl ?_
        refine r_aload_n hX dX10_sums_119 rfl ?_
        refine r_iload_n hX dX10_sums_120 rfl ?_
        refine r_iconst hX (nI 4) dX10_sums_121 rfl ?_
        refine r_callVF (As := [.int (nI k), .int (nI 4)]) (rest := [.int (nI (wtN A k)), .int (nI (sm A t (gM A) k)), .ref (L.1 0)]) hX (c_X10_ofA hM (up (up (up σ7 0 8 (nI (cw A 1 t k + 1))) 0 9 (nI (ss A 1 t k + (aF A k 4)))) 0 10 (nI (sm A t (wtN A) k + (wtN A k)))) A (by rw [up_row (by decide), up_row (by decide), up_row (by decide)]; exact hR10) hV k 4 (by omega) (by omega)) dX10_sums_122 cb_X10_74 (hM.1 0 (9, 0) rfl) rfl rfl ⟨Nat.le_of_ble_eq_true rfl, Nat.le_of_ble_eq_true rfl⟩ ⟨Nat.le_of_ble_eq_true rfl, Nat.le_of_ble_eq_true rfl⟩ (Nat.le_of_ble_eq_true rfl) ?_
        refine r_imulN hX dX10_sums_125 ?_
        refine r_iaddN hX dX10_sums_126 ?_
        refine r_putI hX dX10_sums_127 fl_X10_159 (hM.1 0 (9, 0) rfl) rfl rfl rfl rfl ?_
        refine r_aload_n hX dX10_sums_130 rfl ?_
        refine r_dup hX dX10_sums_131 rfl ?_
        refine r_getIV hX dX10_sums_132 fl_X10_162 (hM.1 0 (9, 0) rfl) rfl (nI (sm A t (gG A) k)) (by rw [up_n (by omega), up_n (by omega), up_n (by omega), up_n (by omega)]; exact hU11.2.2.2.2.1) ?_
        refine r_iload_n hX dX10_sums_135 rfl ?_
        refine r_iload hX dX10_sums_136 rfl ?_
        refine r_imulN hX dX10_sums_138 ?_
        refine r_iaddN hX dX10_sums_139 ?_
        refine r_putI hX dX10_sums_140 fl_X10_162 (hM.1 0 (9, 0) rfl) rfl rfl rfl rfl ?_
        refine r_aload_n hX dX10_sums_143 rfl ?_
        refine r_dup hX dX10_sums_144 rfl ?_
        refine r_getIV hX dX10_sums_145 fl_X10_165 (hM.1 0 (9, 0) rfl) rfl (nI (sm A t (gS A) k)) (by rw [up_n (by omega), up_n (by omega), up_n (by omega), up_n (by omega), up_n (by omega)]; exact hU11.2.2.2.2.2) ?_
        refine r_iload hX dX10_sums_148 rfl ?_
        refine r_iaddN hX dX10_sums_150 ?_
        refine r_putI hX dX10_sums_151 fl_X10_165 (hM.1 0 (9, 0) rfl) rfl rfl rfl rfl ?_
        refine r_iincN (n := 1) hX [(0, .ref (L.1 0)), (1, .int (nI t)), (2, .int (nI (k + 1))), (3, .int (nI (wtN A k))), (4, .int (nI (sayN (aF A k 0) (aF A k 4))))] dX10_sums_154 rfl hN2 rfl ?_
        refine r_goto hX dX10_sums_157 ?_
        exact At.less (At.to (ls := [(0, .ref (L.1 0)), (1, .int (nI t)), (2, .int (nI (k + 1)))]) (ih3 _ (Su.up (Su.up (Su.up (Su.up (Su.up (Su.up (Su.tr hSk hS9.su) rfl) rfl) rfl) rfl) rfl) rfl) (by simp [Sums, up, cw, ss, sm, c5, gM, gG, gS])) rfl rfl rfl) (by simp)
      · skip
        refine r_goto hX dX10_sums_52 ?_
        refine r_iincN (n := 1) hX [(0, .ref (L.1 0)), (1, .int (nI t)), (2, .int (nI (k + 1)))] dX10_sums_154 rfl hN2 rfl ?_
        refine r_goto hX dX10_sums_157 ?_
        exact At.to (ih3 _ hSk (hU.not c5)) rfl rfl rfl
  exact At.to (P1 0 (Nat.zero_le _) _ (Su.up (Su.up (Su.up (Su.up (Su.up (Su.up (Su.rf σ) rfl) rfl) rfl) rfl) rfl) rfl) (by simp [Sums, up, cw, ss, sm])) rfl rfl rfl

set_option maxHeartbeats 4000000 in
set_option maxRecDepth 100000 in
theorem c_X10_spanOf {l : Launch} {D : Ds} {L : La} (hM : MAt L) (σ : Me) (A : Al) (hR : RM (σ 1) A) (hV : Va A) (t b m d : Nat) (ht : t < aT A) (hb : b ≤ 1) (hm : σ 0 8 = nI m) (hd : σ 0 13 = nI d) (hm2 : m ≤ 24) (hd2 : d ≤ 2400) : Ct l yX10_spanOf cX10_spanOf 5 (some .int) { frames := 0, cells := 0, slots := 0, locals := 0 } D L σ [.ref (L.1 0), .int (nI t), .int (nI b)] (PF L σ (spI m d (aB A t) b)) := by
  refine Ct.of (by decide) (Nat.le_of_ble_eq_true rfl) ?_
  intro X hl hD hnl hX0 hQ
  have hX : Ok X cX10_spanOf RX10 "spanOf" { frames := 0, cells := 0, slots := 0, locals := 0 } (some .int) := hX0
  have hN3 : 3 < xn X := by rw [hnl]; decide
  have hN4 : 4 < xn X := by rw [hnl]; decide
  have hT := hV.1
  have hbu := (hV.2.2.2.2.1 t ht).2
  show At X L σ 0 0 [(0, .ref (L.1 0)), (1, .int (nI t)), (2, .int (nI b))] 0 []
  refine r_aload_n hX dX10_spanOf_0 rfl ?_
  refine r_getR hX dX10_spanOf_1 fl_X10_9 (hM.1 0 (9, 0) rfl) rfl (hM.2 0 1 rfl) ?_
  refine r_iconst hX (nI 5) dX10_spanOf_4 rfl ?_
  refine r_iconst hX (nI 2) dX10_spanOf_5 rfl ?_
  refine r_iload_n hX dX10_spanOf_6 rfl ?_
  refine r_imulN hX dX10_spanOf_7 ?_
  refine r_iaddN hX dX10_spanOf_8 ?_
  refine r_iconst hX (nI 1) dX10_spanOf_9 rfl ?_
  refine r_iaddN hX dX10_spanOf_10 ?_
  refine r_aldN hX dX10_spanOf_11 (hM.1 1 (10, 1605) rfl) (by decide) (by omega) (nI (aB A t)) (hR.2.2.2.2.2.1 _ ht).2 ?_
  refine r_istore_n hX [(0, .ref (L.1 0)), (1, .int (nI t)), (2, .int (nI b)), (3, .int (nI (aB A t)))] dX10_spanOf_12 hN3 rfl ?_
  refine r_iload_n hX dX10_spanOf_13 rfl ?_
  refine r_aload_n hX dX10_spanOf_14 rfl ?_
  refine r_getIV hX dX10_spanOf_15 fl_X10_149 (hM.1 0 (9, 0) rfl) rfl (nI m) hm ?_
  refine r_icmpN_le hX dX10_spanOf_18 (by omega) (by omega) (fun c1 => ?_) (fun c1 => ?_)
  · skip
    refine r_aload_n hX dX10_spanOf_25 rfl ?_
    refine r_getIV hX dX10_spanOf_26 fl_X10_149 (hM.1 0 (9, 0) rfl) rfl (nI m) hm ?_
    refine r_istore hX [(0, .ref (L.1 0)), (1, .int (nI t)), (2, .int (nI b)), (3, .int (nI (aB A t))), (4, .int (nI m))] dX10_spanOf_29 hN4 rfl ?_
    refine r_iload hX dX10_spanOf_31 rfl ?_
    refine r_ifN_ne hX dX10_spanOf_33 (by omega) (fun c2 => ?_) (fun c2 => ?_)
    · skip
      refine r_aload_n hX dX10_spanOf_41 rfl ?_
      refine r_getIV hX dX10_spanOf_42 fl_X10_165 (hM.1 0 (9, 0) rfl) rfl (nI d) hd ?_
      refine r_iload_n hX dX10_spanOf_45 rfl ?_
      refine r_ifN_eq hX dX10_spanOf_46 (by omega) (fun c3 => ?_) (fun c3 => ?_)
      · skip
        refine r_iconst hX (nI 0) dX10_spanOf_62 rfl ?_
        refine r_iaddN hX dX10_spanOf_63 ?_
        refine r_iload hX dX10_spanOf_64 rfl ?_
        refine r_idivN hX dX10_spanOf_66 (by omega) (by omega) (by omega) ?_
        exact r_ireturn hX hQ dX10_spanOf_67 ⟨Nat.le_of_ble_eq_true rfl, Nat.le_of_ble_eq_true rfl⟩ (PF.mk (by clear  hQ hX hX0 hN3 hN4 hl hD hnl; unfold spI; grind))
      · skip
        refine r_bipush hX (nI 100) dX10_spanOf_49 rfl ?_
        refine r_iload hX dX10_spanOf_51 rfl ?_
        refine r_aload_n hX dX10_spanOf_53 rfl ?_
        refine r_getIV hX dX10_spanOf_54 fl_X10_149 (hM.1 0 (9, 0) rfl) rfl (nI m) hm ?_
        refine r_isubN hX dX10_spanOf_57 (by omega) ?_
        refine r_imulN hX dX10_spanOf_58 ?_
        refine r_goto hX dX10_spanOf_59 ?_
        refine r_iaddN hX dX10_spanOf_63 ?_
        refine r_iload hX dX10_spanOf_64 rfl ?_
        refine r_idivN hX dX10_spanOf_66 (by omega) (by omega) (by omega) ?_
        exact r_ireturn hX hQ dX10_spanOf_67 ⟨Nat.le_of_ble_eq_true rfl, Nat.le_of_ble_eq_true rfl⟩ (PF.mk (by clear  hQ hX hX0 hN3 hN4 hl hD hnl; unfold spI; grind))
    · skip
      refine r_ldc hX dX10_spanOf_36 ko_X10_92 ?_
      refine r_goto hX dX10_spanOf_38 ?_
      exact r_ireturn hX hQ dX10_spanOf_67 ⟨Nat.le_of_ble_eq_true rfl, Nat.le_of_ble_eq_true rfl⟩ (PF.mk (by clear  hQ hX hX0 hN3 hN4 hl hD hnl; unfold spI; grind))
  · skip
    refine r_iload_n hX dX10_spanOf_21 rfl ?_
    refine r_goto hX dX10_spanOf_22 ?_
    refine r_istore hX [(0, .ref (L.1 0)), (1, .int (nI t)), (2, .int (nI b)), (3, .int (nI (aB A t))), (4, .int (nI (aB A t)))] dX10_spanOf_29 hN4 rfl ?_
    refine r_iload hX dX10_spanOf_31 rfl ?_
    refine r_ifN_ne hX dX10_spanOf_33 (by omega) (fun c4 => ?_) (fun c4 => ?_)
    · skip
      refine r_aload_n hX dX10_spanOf_41 rfl ?_
      refine r_getIV hX dX10_spanOf_42 fl_X10_165 (hM.1 0 (9, 0) rfl) rfl (nI d) hd ?_
      refine r_iload_n hX dX10_spanOf_45 rfl ?_
      refine r_ifN_eq hX dX10_spanOf_46 (by omega) (fun c5 => ?_) (fun c5 => ?_)
      · skip
        refine r_iconst hX (nI 0) dX10_spanOf_62 rfl ?_
        refine r_iaddN hX dX10_spanOf_63 ?_
        refine r_iload hX dX10_spanOf_64 rfl ?_
        refine r_idivN hX dX10_spanOf_66 (by omega) (by omega) (by omega) ?_
        exact r_ireturn hX hQ dX10_spanOf_67 ⟨Nat.le_of_ble_eq_true rfl, Nat.le_of_ble_eq_true rfl⟩ (PF.mk (by clear  hQ hX hX0 hN3 hN4 hl hD hnl; unfold spI; grind))
      · skip
        refine r_bipush hX (nI 100) dX10_spanOf_49 rfl ?_
        refine r_iload hX dX10_spanOf_51 rfl ?_
        refine r_aload_n hX dX10_spanOf_53 rfl ?_
        refine r_getIV hX dX10_spanOf_54 fl_X10_149 (hM.1 0 (9, 0) rfl) rfl (nI m) hm ?_
        refine r_isubN hX dX10_spanOf_57 (by omega) ?_
        refine r_imulN hX dX10_spanOf_58 ?_
        refine r_goto hX dX10_spanOf_59 ?_
        refine r_iaddN hX dX10_spanOf_63 ?_
        refine r_iload hX dX10_spanOf_64 rfl ?_
        refine r_idivN hX dX10_spanOf_66 (by omega) (by omega) (by omega) ?_
        exact r_ireturn hX hQ dX10_spanOf_67 ⟨Nat.le_of_ble_eq_true rfl, Nat.le_of_ble_eq_true rfl⟩ (PF.mk (by clear  hQ hX hX0 hN3 hN4 hl hD hnl; unfold spI; grind))
    · skip
      refine r_ldc hX dX10_spanOf_36 ko_X10_92 ?_
      refine r_goto hX dX10_spanOf_38 ?_
      exact r_ireturn hX hQ dX10_spanOf_67 ⟨Nat.le_of_ble_eq_true rfl, Nat.le_of_ble_eq_true rfl⟩ (PF.mk (by clear  hQ hX hX0 hN3 hN4 hl hD hnl; unfold spI; grind))

set_option maxHeartbeats 4000000 in
set_option maxRecDepth 100000 in
theorem c_X10_starWorth {l : Launch} {D : Ds} {L : La} (hM : MAt L) (σ : Me) (A : Al) (hR : RM (σ 1) A) (hV : Va A) (t : Nat) (ht : t < 2 ^ 31) : Ct l yX10_starWorth cX10_starWorth 3 (some .int) { frames := 3, cells := 0, slots := 0, locals := 68 } D L σ [.ref (L.1 0), .int (nI t)] (PF L σ (swI A t)) := by
  refine Ct.of (by decide) (Nat.le_of_ble_eq_true rfl) ?_
  intro X hl hD hnl hX0 hQ
  have hX : Ok X cX10_starWorth RX10 "starWorth" { frames := 3, cells := 0, slots := 0, locals := 68 } (some .int) := hX0
  have hN2 : 2 < xn X := by rw [hnl]; decide
  have hss := ss_le hV t
  have hcl := cw_le A 1 t (aW A)
  have hW := hV.2.2.1
  show At X L σ 0 0 [(0, .ref (L.1 0)), (1, .int (nI t))] 0 []
  refine r_aload_n hX dX10_starWorth_0 rfl ?_
  refine r_iconst hX (nI 1) dX10_starWorth_1 rfl ?_
  refine r_iload_n hX dX10_starWorth_2 rfl ?_
  refine r_callVF (As := [.int (nI 1), .int (nI t)]) (rest := []) hX (c_X10_wordsOf hM σ A hR hV 1 t (by omega) (by omega)) dX10_starWorth_3 cb_X10_82 (hM.1 0 (9, 0) rfl) rfl rfl ⟨Nat.le_of_ble_eq_true rfl, Nat.le_of_ble_eq_true rfl⟩ ⟨Nat.le_of_ble_eq_true rfl, Nat.le_of_ble_eq_true rfl⟩ (Nat.le_of_ble_eq_true rfl) ?_
  refine r_istore_n hX [(0, .ref (L.1 0)), (1, .int (nI t)), (2, .int (nI (cw A 1 t (aW A))))] dX10_starWorth_6 hN2 rfl ?_
  refine r_iload_n hX dX10_starWorth_7 rfl ?_
  refine r_ifN_ne hX dX10_starWorth_8 (by omega) (fun c1 => ?_) (fun c1 => ?_)
  · skip
    refine r_bipush hX (nI 100) dX10_starWorth_17 rfl ?_
    refine r_aload_n hX dX10_starWorth_19 rfl ?_
    refine r_iload_n hX dX10_starWorth_20 rfl ?_
    refine r_callVF (As := [.int (nI t)]) (rest := [.int (nI 100)]) hX (c_X10_starsOf hM σ A hR hV t (by omega)) dX10_starWorth_21 cb_X10_168 (hM.1 0 (9, 0) rfl) rfl rfl ⟨Nat.le_of_ble_eq_true rfl, Nat.le_of_ble_eq_true rfl⟩ ⟨Nat.le_of_ble_eq_true rfl, Nat.le_of_ble_eq_true rfl⟩ (Nat.le_of_ble_eq_true rfl) ?_
    refine r_iconst hX (nI 5) dX10_starWorth_24 rfl ?_
    refine r_iaddN hX dX10_starWorth_25 ?_
    refine r_imulN hX dX10_starWorth_26 ?_
    refine r_iload_n hX dX10_starWorth_27 rfl ?_
    refine r_iconst hX (nI 1) dX10_starWorth_28 rfl ?_
    refine r_iaddN hX dX10_starWorth_29 ?_
    refine r_idivN hX dX10_starWorth_30 (by omega) (by omega) (by omega) ?_
    refine r_aload_n hX dX10_starWorth_31 rfl ?_
    refine r_iload_n hX dX10_starWorth_32 rfl ?_
    refine r_callVF (As := [.int (nI t)]) (rest := [.int (nI ((100 * (ss A 1 t (aW A) + 5)) / (cw A 1 t (aW A) + 1)))]) hX (c_X10_meanOf hM σ A hR hV t (by omega)) dX10_starWorth_33 cb_X10_171 (hM.1 0 (9, 0) rfl) rfl rfl ⟨Nat.le_of_ble_eq_true rfl, Nat.le_of_ble_eq_true rfl⟩ ⟨Nat.le_of_ble_eq_true rfl, Nat.le_of_ble_eq_true rfl⟩ (Nat.le_of_ble_eq_true rfl) ?_
    refine r_isub hX dX10_starWorth_36 ?_
    exact r_ireturn hX hQ dX10_starWorth_37 ⟨Nat.le_of_ble_eq_true rfl, Nat.le_of_ble_eq_true rfl⟩ (PF.mk (by unfold swI; rw [if_neg (by omega)]))
  · skip
    refine r_sipush hX (nI 500) dX10_starWorth_11 rfl ?_
    refine r_goto hX dX10_starWorth_14 ?_
    exact r_ireturn hX hQ dX10_starWorth_37 ⟨Nat.le_of_ble_eq_true rfl, Nat.le_of_ble_eq_true rfl⟩ (PF.mk (by unfold swI; rw [if_pos (by omega)]))
