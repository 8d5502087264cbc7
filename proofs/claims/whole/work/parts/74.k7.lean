set_option maxHeartbeats 4000000 in
set_option maxRecDepth 100000 in
theorem c_X3_weighedOf {l : Launch} {D : Ds} {L : La}  (b : Nat) (hC : RAt L b) (σ : Me) (A : Al) (h0 : R0 σ b A) (hW : RW σ b A) (hTx : RX' L σ b A) (hV : Va A) (t z : Nat) (ht : t < 2 ^ 31) (hz : z ≤ 1) : Ct l yX3_weighedOf cX3_weighedOf 7 (some .int) { frames := 3, cells := 0, slots := 0, locals := 74 } D L σ [.ref (L.1 (b + 0)), .int (nI t), .int (nI z)] (PI L (fun r σ2 => r = (if z = 1 then wdI A t else gdI A t) ∧ Cp σ σ2)) := by
  refine Ct.of (by decide) (Nat.le_of_ble_eq_true rfl) ?_
  intro X hl hD hnl hX0 hQ
  have hX : Ok X cX3_weighedOf RX3 "weighedOf" { frames := 3, cells := 0, slots := 0, locals := 74 } (some .int) := hX0
  have hN3 : 3 < xn X := by rw [hnl]; decide
  have hN4 : 4 < xn X := by rw [hnl]; decide
  have hN5 : 5 < xn X := by rw [hnl]; decide
  have hN6 : 6 < xn X := by rw [hnl]; decide
  have hbb := hC.2.2
  have hW24 := hV.2.2.1
  have hT6 := hV.1
  have hN12 := hV.2.1
  have hX14 := hV.2.2.2.1
  have g2 := sW_le hV t _ (Nat.le_refl _)
  have g3 := sM_le hV t _ (Nat.le_refl _)
  have g4 := sG_le hV t _ (Nat.le_refl _)
  show At X L σ 0 0 [(0, .ref (L.1 (b + 0))), (1, .int (nI t)), (2, .int (nI z))] 0 []
  rcases (show z = 0 ∨ z = 1 by omega) with rfl | rfl
  · skip
    refine r_iconst hX (nI 0) dX3_weighedOf_0 rfl ?_
    refine r_istore_n hX [(0, .ref (L.1 (b + 0))), (1, .int (nI t)), (2, .int (nI 0)), (3, .int (nI 0))] dX3_weighedOf_1 hN3 rfl ?_
    refine r_iconst hX (nI 0) dX3_weighedOf_2 rfl ?_
    refine r_istore hX [(0, .ref (L.1 (b + 0))), (1, .int (nI t)), (2, .int (nI 0)), (3, .int (nI 0)), (4, .int (nI 0))] dX3_weighedOf_3 hN4 rfl ?_
    refine r_iconst hX (nI 0) dX3_weighedOf_5 rfl ?_
    refine r_istore hX [(0, .ref (L.1 (b + 0))), (1, .int (nI t)), (2, .int (nI 0)), (3, .int (nI 0)), (4, .int (nI 0)), (5, .int (nI 0))] dX3_weighedOf_6 hN5 rfl ?_
    have P1 : ∀ k, k ≤ aW A → ∀ (σk : Me) (hSk : Cp σ σk), At X L σk 0 0 [(0, .ref (L.1 (b + 0))), (1, .int (nI t)), (2, .int (nI 0)), (3, .int (nI (sm A t (wtN A) k))), (4, .int (nI (sm A t (gG A) k))), (5, .int (nI k))] 8 [] := by
      refine loopUp (aW A) ?_ ?_
      · skip
        intro σk hSk
        have g0 := h0.cs hC hSk.cs
        have gW := hW.cs hC hSk.cs
        have gX := hTx.cs hSk.cs
        refine r_iload hX dX3_weighedOf_8 rfl ?_
        refine r_aload_n hX dX3_weighedOf_10 rfl ?_
        refine r_getR hX dX3_weighedOf_11 fl_X3_31 (hC.1 0 (2, 0) rfl) rfl (hC.2.1 0 5 4 rfl) ?_
        refine r_getIV hX dX3_weighedOf_14 fl_X3_112 (hC.1 4 (7, 0) rfl) rfl (nI (aW A)) gW.1 ?_
        refine r_icmpN_ge hX dX3_weighedOf_17 (by omega) (by omega) (fun c2 => ?_) (fun c2 => absurd c2 (by omega))
        refine r_iload_n hX dX3_weighedOf_90 rfl ?_
        refine r_ifN_ne hX dX3_weighedOf_91 (by omega) (fun c3 => ?_) (fun c3 => ?_)
        · skip
          refine r_iload hX dX3_weighedOf_99 rfl ?_
          refine r_iload_n hX dX3_weighedOf_101 rfl ?_
          refine r_idivN hX dX3_weighedOf_102 (by omega) (by omega) (by omega) ?_
          exact r_ireturn hX hQ dX3_weighedOf_103 ⟨Nat.le_of_ble_eq_true rfl, Nat.le_of_ble_eq_true rfl⟩ (PI.mk ⟨by rw [if_neg (by decide)]; unfold gdI; rw [if_neg (show ¬ sW A t = 0 from c3)]; try rfl, hSk⟩)
        · skip
          refine r_ldc hX dX3_weighedOf_94 ko_X3_124 ?_
          refine r_goto hX dX3_weighedOf_96 ?_
          exact r_ireturn hX hQ dX3_weighedOf_103 ⟨Nat.le_of_ble_eq_true rfl, Nat.le_of_ble_eq_true rfl⟩ (PI.mk ⟨by rw [if_neg (by decide)]; unfold gdI; rw [if_pos (show sW A t = 0 from c3)]; try rfl, hSk⟩)
      · skip
        intro k hk ih4 σk hSk
        have g0 := h0.cs hC hSk.cs
        have gW := hW.cs hC hSk.cs
        have gX := hTx.cs hSk.cs
        have hwf := hV.2.2.2.2.2.2.1 k hk
        refine r_iload hX dX3_weighedOf_8 rfl ?_
        refine r_aload_n hX dX3_weighedOf_10 rfl ?_
        refine r_getR hX dX3_weighedOf_11 fl_X3_31 (hC.1 0 (2, 0) rfl) rfl (hC.2.1 0 5 4 rfl) ?_
        refine r_getIV hX dX3_weighedOf_14 fl_X3_112 (hC.1 4 (7, 0) rfl) rfl (nI (aW A)) gW.1 ?_
        refine r_icmpN_ge hX dX3_weighedOf_17 (by omega) (by omega) (fun c5 => absurd c5 (by omega)) (fun c5 => ?_)
        refine r_aload_n hX dX3_weighedOf_20 rfl ?_
        refine r_getR hX dX3_weighedOf_21 fl_X3_31 (hC.1 0 (2, 0) rfl) rfl (hC.2.1 0 5 4 rfl) ?_
        refine r_getR hX dX3_weighedOf_24 fl_X3_115 (hC.1 4 (7, 0) rfl) rfl (hC.2.1 4 2 10 rfl) ?_
        refine r_iload hX dX3_weighedOf_27 rfl ?_
        refine r_aldN hX dX3_weighedOf_29 (hC.1 10 (10, 24) rfl) (by decide) (by omega) (nI (aF A k 1)) (gW.2.2.1 k (by omega)) ?_
        refine r_iload_n hX dX3_weighedOf_30 rfl ?_
        refine r_icmpN_ne hX dX3_weighedOf_31 (by omega) (by omega) (fun c6 => ?_) (fun c6 => ?_)
        · skip
          refine r_iincN (n := 1) hX [(0, .ref (L.1 (b + 0))), (1, .int (nI t)), (2, .int (nI 0)), (3, .int (nI (sm A t (wtN A) k))), (4, .int (nI (sm A t (gG A) k))), (5, .int (nI (k + 1)))] dX3_weighedOf_84 rfl hN5 rfl ?_
          refine r_goto hX dX3_weighedOf_87 ?_
          have q7 : sm A t (wtN A) (k + 1) = sm A t (wtN A) k := (by rw [sm, if_neg c6]; try rfl)
          have q8 : sm A t (gG A) (k + 1) = sm A t (gG A) k := (by rw [sm, if_neg c6]; try rfl)
          exact At.to (ih4 _ hSk) (by rw [q7, q8]) rfl rfl
        · skip
          refine r_aload_n hX dX3_weighedOf_34 rfl ?_
          refine r_iload hX dX3_weighedOf_35 rfl ?_
          refine r_callVI (As := [.int (nI k)]) (rest := []) hX (c_X3_weightOf b hC σk A g0 gW gX hV k (by omega)) dX3_weighedOf_37 cb_X3_118 (hC.1 0 (2, 0) rfl) rfl rfl ⟨Nat.le_of_ble_eq_true rfl, Nat.le_of_ble_eq_true rfl⟩ ⟨Nat.le_of_ble_eq_true rfl, Nat.le_of_ble_eq_true rfl⟩ (Nat.le_of_ble_eq_true rfl) (fun r9 σ10 h11 => ?_)
          obtain ⟨rfl, hS12⟩ := h11
          have g014 := R0.cs g0 hC hS12.cs
          have gW15 := RW.cs gW hC hS12.cs
          have gX16 := RX'.cs gX hS12.cs
          refine r_istore hX [(0, .ref (L.1 (b + 0))), (1, .int (nI t)), (2, .int (nI 0)), (3, .int (nI (sm A t (wtN A) k))), (4, .int (nI (sm A t (gG A) k))), (5, .int (nI k)), (6, .int (nI (wtN A k)))] dX3_weighedOf_40 hN6 rfl ?_
          refine r_iload_n hX dX3_weighedOf_42 rfl ?_
          refine r_iload hX dX3_weighedOf_43 rfl ?_
          refine r_iaddN hX dX3_weighedOf_45 ?_
          refine r_istore_n hX [(0, .ref (L.1 (b + 0))), (1, .int (nI t)), (2, .int (nI 0)), (3, .int (nI (sm A t (wtN A) k + (wtN A k)))), (4, .int (nI (sm A t (gG A) k))), (5, .int (nI k)), (6, .int (nI (wtN A k)))] dX3_weighedOf_46 hN3 rfl ?_
          refine r_iload hX dX3_weighedOf_47 rfl ?_
          refine r_iload hX dX3_weighedOf_49 rfl ?_
          refine r_iload_n hX dX3_weighedOf_51 rfl ?_
          refine r_ifN_eq hX dX3_weighedOf_52 (by decide) (fun c17 => ?_) (fun c17 => absurd c17 (by decide))
          refine r_aload_n hX dX3_weighedOf_71 rfl ?_
          refine r_getR hX dX3_weighedOf_72 fl_X3_31 (hC.1 0 (2, 0) rfl) rfl (hC.2.1 0 5 4 rfl) ?_
          refine r_iload hX dX3_weighedOf_75 rfl ?_
          refine r_callVF (As := [.int (nI k)]) (rest := [.int (nI (wtN A k)), .int (nI (sm A t (gG A) k))]) hX (c_X8_saysOf b hC σ10 A gW15 hV k (by omega)) dX3_weighedOf_77 cb_X3_121 (hC.1 4 (7, 0) rfl) rfl rfl ⟨Nat.le_of_ble_eq_true rfl, Nat.le_of_ble_eq_true rfl⟩ ⟨Nat.le_of_ble_eq_true rfl, Nat.le_of_ble_eq_true rfl⟩ (Nat.le_of_ble_eq_true rfl) ?_
          refine r_imulN hX dX3_weighedOf_80 ?_
          refine r_iaddN hX dX3_weighedOf_81 ?_
          refine r_istore hX [(0, .ref (L.1 (b + 0))), (1, .int (nI t)), (2, .int (nI 0)), (3, .int (nI (sm A t (wtN A) k + (wtN A k)))), (4, .int (nI (sm A t (gG A) k + ((wtN A k) * (sayN (aF A k 0) (aF A k 4)))))), (5, .int (nI k)), (6, .int (nI (wtN A k)))] dX3_weighedOf_82 hN4 rfl ?_
          refine r_iincN (n := 1) hX [(0, .ref (L.1 (b + 0))), (1, .int (nI t)), (2, .int (nI 0)), (3, .int (nI (sm A t (wtN A) k + (wtN A k)))), (4, .int (nI (sm A t (gG A) k + ((wtN A k) * (sayN (aF A k 0) (aF A k 4)))))), (5, .int (nI (k + 1))), (6, .int (nI (wtN A k)))] dX3_weighedOf_84 rfl hN5 rfl ?_
          refine r_goto hX dX3_weighedOf_87 ?_
          have q18 : sm A t (wtN A) (k + 1) = sm A t (wtN A) k + (wtN A k) := (by rw [sm, if_pos c6])
          have q19 : sm A t (gG A) (k + 1) = sm A t (gG A) k + ((wtN A k) * (sayN (aF A k 0) (aF A k 4))) := (by rw [sm, if_pos c6]; rfl)
          exact At.less (At.to (ls := [(0, .ref (L.1 (b + 0))), (1, .int (nI t)), (2, .int (nI 0)), (3, .int (nI (sm A t (wtN A) k + (wtN A k)))), (4, .int (nI (sm A t (gG A) k + ((wtN A k) * (sayN (aF A k 0) (aF A k 4)))))), (5, .int (nI (k + 1)))]) (ih4 _ (Cp.tr hSk hS12)) (by rw [q18, q19]) rfl rfl) (by simp)
    exact At.to (P1 0 (Nat.zero_le _) σ (Cp.rf σ)) rfl rfl rfl
  · skip
    refine r_iconst hX (nI 0) dX3_weighedOf_0 rfl ?_
    refine r_istore_n hX [(0, .ref (L.1 (b + 0))), (1, .int (nI t)), (2, .int (nI 1)), (3, .int (nI 0))] dX3_weighedOf_1 hN3 rfl ?_
    refine r_iconst hX (nI 0) dX3_weighedOf_2 rfl ?_
    refine r_istore hX [(0, .ref (L.1 (b + 0))), (1, .int (nI t)), (2, .int (nI 1)), (3, .int (nI 0)), (4, .int (nI 0))] dX3_weighedOf_3 hN4 rfl ?_
    refine r_iconst hX (nI 0) dX3_weighedOf_5 rfl ?_
    refine r_istore hX [(0, .ref (L.1 (b + 0))), (1, .int (nI t)), (2, .int (nI 1)), (3, .int (nI 0)), (4, .int (nI 0)), (5, .int (nI 0))] dX3_weighedOf_6 hN5 rfl ?_
    have P20 : ∀ k, k ≤ aW A → ∀ (σk : Me) (hSk : Cp σ σk), At X L σk 0 0 [(0, .ref (L.1 (b + 0))), (1, .int (nI t)), (2, .int (nI 1)), (3, .int (nI (sm A t (wtN A) k))), (4, .int (nI (100 * sm A t (gM A) k))), (5, .int (nI k))] 8 [] := by
      refine loopUp (aW A) ?_ ?_
      · skip
        intro σk hSk
        have g0 := h0.cs hC hSk.cs
        have gW := hW.cs hC hSk.cs
        have gX := hTx.cs hSk.cs
        refine r_iload hX dX3_weighedOf_8 rfl ?_
        refine r_aload_n hX dX3_weighedOf_10 rfl ?_
        refine r_getR hX dX3_weighedOf_11 fl_X3_31 (hC.1 0 (2, 0) rfl) rfl (hC.2.1 0 5 4 rfl) ?_
        refine r_getIV hX dX3_weighedOf_14 fl_X3_112 (hC.1 4 (7, 0) rfl) rfl (nI (aW A)) gW.1 ?_
        refine r_icmpN_ge hX dX3_weighedOf_17 (by omega) (by omega) (fun c21 => ?_) (fun c21 => absurd c21 (by omega))
        refine r_iload_n hX dX3_weighedOf_90 rfl ?_
        refine r_ifN_ne hX dX3_weighedOf_91 (by omega) (fun c22 => ?_) (fun c22 => ?_)
        · skip
          refine r_iload hX dX3_weighedOf_99 rfl ?_
          refine r_iload_n hX dX3_weighedOf_101 rfl ?_
          refine r_idivN hX dX3_weighedOf_102 (by omega) (by omega) (by omega) ?_
          exact r_ireturn hX hQ dX3_weighedOf_103 ⟨Nat.le_of_ble_eq_true rfl, Nat.le_of_ble_eq_true rfl⟩ (PI.mk ⟨by rw [if_pos rfl]; unfold wdI; rw [if_neg (show ¬ sW A t = 0 from c22)]; try rfl, hSk⟩)
        · skip
          refine r_ldc hX dX3_weighedOf_94 ko_X3_124 ?_
          refine r_goto hX dX3_weighedOf_96 ?_
          exact r_ireturn hX hQ dX3_weighedOf_103 ⟨Nat.le_of_ble_eq_true rfl, Nat.le_of_ble_eq_true rfl⟩ (PI.mk ⟨by rw [if_pos rfl]; unfold wdI; rw [if_pos (show sW A t = 0 from c22)]; try rfl, hSk⟩)
      · skip
        intro k hk ih23 σk hSk
        have g0 := h0.cs hC hSk.cs
        have gW := hW.cs hC hSk.cs
        have gX := hTx.cs hSk.cs
        have hwf := hV.2.2.2.2.2.2.1 k hk
        refine r_iload hX dX3_weighedOf_8 rfl ?_
        refine r_aload_n hX dX3_weighedOf_10 rfl ?_
        refine r_getR hX dX3_weighedOf_11 fl_X3_31 (hC.1 0 (2, 0) rfl) rfl (hC.2.1 0 5 4 rfl) ?_
        refine r_getIV hX dX3_weighedOf_14 fl_X3_112 (hC.1 4 (7, 0) rfl) rfl (nI (aW A)) gW.1 ?_
        refine r_icmpN_ge hX dX3_weighedOf_17 (by omega) (by omega) (fun c24 => absurd c24 (by omega)) (fun c24 => ?_)
        refine r_aload_n hX dX3_weighedOf_20 rfl ?_
        refine r_getR hX dX3_weighedOf_21 fl_X3_31 (hC.1 0 (2, 0) rfl) rfl (hC.2.1 0 5 4 rfl) ?_
        refine r_getR hX dX3_weighedOf_24 fl_X3_115 (hC.1 4 (7, 0) rfl) rfl (hC.2.1 4 2 10 rfl) ?_
        refine r_iload hX dX3_weighedOf_27 rfl ?_
        refine r_aldN hX dX3_weighedOf_29 (hC.1 10 (10, 24) rfl) (by decide) (by omega) (nI (aF A k 1)) (gW.2.2.1 k (by omega)) ?_
        refine r_iload_n hX dX3_weighedOf_30 rfl ?_
        refine r_icmpN_ne hX dX3_weighedOf_31 (by omega) (by omega) (fun c25 => ?_) (fun c25 => ?_)
        · skip
          refine r_iincN (n := 1) hX [(0, .ref (L.1 (b + 0))), (1, .int (nI t)), (2, .int (nI 1)), (3, .int (nI (sm A t (wtN A) k))), (4, .int (nI (100 * sm A t (gM A) k))), (5, .int (nI (k + 1)))] dX3_weighedOf_84 rfl hN5 rfl ?_
          refine r_goto hX dX3_weighedOf_87 ?_
          have q26 : sm A t (wtN A) (k + 1) = sm A t (wtN A) k := (by rw [sm, if_neg c25]; try rfl)
          have q27 : 100 * sm A t (gM A) (k + 1) = 100 * sm A t (gM A) k := (by rw [sm, if_neg c25]; try rfl)
          exact At.to (ih23 _ hSk) (by rw [q26, q27]) rfl rfl
        · skip
          refine r_aload_n hX dX3_weighedOf_34 rfl ?_
          refine r_iload hX dX3_weighedOf_35 rfl ?_
          refine r_callVI (As := [.int (nI k)]) (rest := []) hX (c_X3_weightOf b hC σk A g0 gW gX hV k (by omega)) dX3_weighedOf_37 cb_X3_118 (hC.1 0 (2, 0) rfl) rfl rfl ⟨Nat.le_of_ble_eq_true rfl, Nat.le_of_ble_eq_true rfl⟩ ⟨Nat.le_of_ble_eq_true rfl, Nat.le_of_ble_eq_true rfl⟩ (Nat.le_of_ble_eq_true rfl) (fun r28 σ29 h30 => ?_)
          obtain ⟨rfl, hS31⟩ := h30
          have g033 := R0.cs g0 hC hS31.cs
          have gW34 := RW.cs gW hC hS31.cs
          have gX35 := RX'.cs gX hS31.cs
          refine r_istore hX [(0, .ref (L.1 (b + 0))), (1, .int (nI t)), (2, .int (nI 1)), (3, .int (nI (sm A t (wtN A) k))), (4, .int (nI (100 * sm A t (gM A) k))), (5, .int (nI k)), (6, .int (nI (wtN A k)))] dX3_weighedOf_40 hN6 rfl ?_
          refine r_iload_n hX dX3_weighedOf_42 rfl ?_
          refine r_iload hX dX3_weighedOf_43 rfl ?_
          refine r_iaddN hX dX3_weighedOf_45 ?_
          refine r_istore_n hX [(0, .ref (L.1 (b + 0))), (1, .int (nI t)), (2, .int (nI 1)), (3, .int (nI (sm A t (wtN A) k + (wtN A k)))), (4, .int (nI (100 * sm A t (gM A) k))), (5, .int (nI k)), (6, .int (nI (wtN A k)))] dX3_weighedOf_46 hN3 rfl ?_
          refine r_iload hX dX3_weighedOf_47 rfl ?_
          refine r_iload hX dX3_weighedOf_49 rfl ?_
          refine r_iload_n hX dX3_weighedOf_51 rfl ?_
          refine r_ifN_eq hX dX3_weighedOf_52 (by decide) (fun c36 => absurd c36 (by decide)) (fun c36 => ?_)
          refine r_bipush hX (nI 100) dX3_weighedOf_55 rfl ?_
          refine r_aload_n hX dX3_weighedOf_57 rfl ?_
          refine r_getR hX dX3_weighedOf_58 fl_X3_31 (hC.1 0 (2, 0) rfl) rfl (hC.2.1 0 5 4 rfl) ?_
          refine r_getR hX dX3_weighedOf_61 fl_X3_86 (hC.1 4 (7, 0) rfl) rfl (hC.2.1 4 5 13 rfl) ?_
          refine r_iload hX dX3_weighedOf_64 rfl ?_
          refine r_aldN hX dX3_weighedOf_66 (hC.1 13 (10, 24) rfl) (by decide) (by omega) (nI (aF A k 4)) (gW34.2.2.2.2.2 k (by omega)) ?_
          refine r_imulN hX dX3_weighedOf_67 ?_
          refine r_goto hX dX3_weighedOf_68 ?_
          refine r_imulN hX dX3_weighedOf_80 ?_
          refine r_iaddN hX dX3_weighedOf_81 ?_
          refine r_istore hX [(0, .ref (L.1 (b + 0))), (1, .int (nI t)), (2, .int (nI 1)), (3, .int (nI (sm A t (wtN A) k + (wtN A k)))), (4, .int (nI (100 * sm A t (gM A) k + ((wtN A k) * (100 * (aF A k 4)))))), (5, .int (nI k)), (6, .int (nI (wtN A k)))] dX3_weighedOf_82 hN4 rfl ?_
          refine r_iincN (n := 1) hX [(0, .ref (L.1 (b + 0))), (1, .int (nI t)), (2, .int (nI 1)), (3, .int (nI (sm A t (wtN A) k + (wtN A k)))), (4, .int (nI (100 * sm A t (gM A) k + ((wtN A k) * (100 * (aF A k 4)))))), (5, .int (nI (k + 1))), (6, .int (nI (wtN A k)))] dX3_weighedOf_84 rfl hN5 rfl ?_
          refine r_goto hX dX3_weighedOf_87 ?_
          have q37 : sm A t (wtN A) (k + 1) = sm A t (wtN A) k + (wtN A k) := (by rw [sm, if_pos c25])
          have q38 : 100 * sm A t (gM A) (k + 1) = 100 * sm A t (gM A) k + ((wtN A k) * (100 * (aF A k 4))) := (by rw [sm, if_pos c25, Nat.mul_add]; unfold gM; rw [Nat.mul_left_comm])
          exact At.less (At.to (ls := [(0, .ref (L.1 (b + 0))), (1, .int (nI t)), (2, .int (nI 1)), (3, .int (nI (sm A t (wtN A) k + (wtN A k)))), (4, .int (nI (100 * sm A t (gM A) k + ((wtN A k) * (100 * (aF A k 4)))))), (5, .int (nI (k + 1)))]) (ih23 _ (Cp.tr hSk hS31)) (by rw [q37, q38]) rfl rfl) (by simp)
    exact At.to (P20 0 (Nat.zero_le _) σ (Cp.rf σ)) rfl rfl rfl

set_option maxHeartbeats 4000000 in
set_option maxRecDepth 100000 in
theorem c_X3_spanOf {l : Launch} {D : Ds} {L : La}  (b : Nat) (hC : RAt L b) (σ : Me) (A : Al) (h0 : R0 σ b A) (hW : RW σ b A) (hTx : RX' L σ b A) (hV : Va A) (t z : Nat) (ht : t < aT A) (hz : z ≤ 1) : Ct l yX3_spanOf cX3_spanOf 7 (some .int) { frames := 2, cells := 0, slots := 0, locals := 43 } D L σ [.ref (L.1 (b + 0)), .int (nI t), .int (nI z)] (PF L σ (spI (cw A 1 t (aW A)) (sS A t) (aB A t) z)) := by
  refine Ct.of (by decide) (Nat.le_of_ble_eq_true rfl) ?_
  intro X hl hD hnl hX0 hQ
  have hX : Ok X cX3_spanOf RX3 "spanOf" { frames := 2, cells := 0, slots := 0, locals := 43 } (some .int) := hX0
  have hN3 : 3 < xn X := by rw [hnl]; decide
  have hN4 : 4 < xn X := by rw [hnl]; decide
  have hN5 : 5 < xn X := by rw [hnl]; decide
  have hN6 : 6 < xn X := by rw [hnl]; decide
  have hbb := hC.2.2
  have hW24 := hV.2.2.1
  have hT6 := hV.1
  have hN12 := hV.2.1
  have hX14 := hV.2.2.2.1
  have hbu := (hV.2.2.2.2.1 t ht).2
  have hcl := cw_le A 1 t (aW A)
  have g5 := sS_le hV t _ (Nat.le_refl _)
  show At X L σ 0 0 [(0, .ref (L.1 (b + 0))), (1, .int (nI t)), (2, .int (nI z))] 0 []
  rcases (show z = 0 ∨ z = 1 by omega) with rfl | rfl
  · skip
    refine r_aload_n hX dX3_spanOf_0 rfl ?_
    refine r_getR hX dX3_spanOf_1 fl_X3_31 (hC.1 0 (2, 0) rfl) rfl (hC.2.1 0 5 4 rfl) ?_
    refine r_iload_n hX dX3_spanOf_4 rfl ?_
    refine r_callVF (As := [.int (nI t)]) (rest := []) hX (c_X8_countOf b hC σ A hW hV t (by omega)) dX3_spanOf_5 cb_X3_125 (hC.1 4 (7, 0) rfl) rfl rfl ⟨Nat.le_of_ble_eq_true rfl, Nat.le_of_ble_eq_true rfl⟩ ⟨Nat.le_of_ble_eq_true rfl, Nat.le_of_ble_eq_true rfl⟩ (Nat.le_of_ble_eq_true rfl) ?_
    refine r_istore_n hX [(0, .ref (L.1 (b + 0))), (1, .int (nI t)), (2, .int (nI 0)), (3, .int (nI (cw A 1 t (aW A))))] dX3_spanOf_8 hN3 rfl ?_
    refine r_iload_n hX dX3_spanOf_9 rfl ?_
    refine r_aload_n hX dX3_spanOf_10 rfl ?_
    refine r_getR hX dX3_spanOf_11 fl_X3_19 (hC.1 0 (2, 0) rfl) rfl (hC.2.1 0 2 2 rfl) ?_
    refine r_iload_n hX dX3_spanOf_14 rfl ?_
    refine r_aldN hX dX3_spanOf_15 (hC.1 2 (10, 6) rfl) (by decide) (by omega) (nI (aB A t)) (h0.2.2.2.2.2.1 t (by omega)) ?_
    refine r_max hX dX3_spanOf_16 cb_X3_76 ⟨Nat.le_of_ble_eq_true rfl, Nat.le_of_ble_eq_true rfl⟩ ⟨Nat.le_of_ble_eq_true rfl, Nat.le_of_ble_eq_true rfl⟩ (Nat.le_of_ble_eq_true rfl) (nI (max (cw A 1 t (aW A)) (aB A t))) (mxI_n (by omega) (by omega)) ?_
    refine r_istore hX [(0, .ref (L.1 (b + 0))), (1, .int (nI t)), (2, .int (nI 0)), (3, .int (nI (cw A 1 t (aW A)))), (4, .int (nI (max (cw A 1 t (aW A)) (aB A t))))] dX3_spanOf_19 hN4 rfl ?_
    refine r_iload hX dX3_spanOf_21 rfl ?_
    refine r_ifN_ne hX dX3_spanOf_23 (by omega) (fun c1 => ?_) (fun c1 => ?_)
    · skip
      refine r_iload_n hX dX3_spanOf_29 rfl ?_
      refine r_ifN_eq hX dX3_spanOf_30 (by decide) (fun c2 => ?_) (fun c2 => absurd c2 (by decide))
      refine r_iconst hX (nI 0) dX3_spanOf_43 rfl ?_
      refine r_istore hX [(0, .ref (L.1 (b + 0))), (1, .int (nI t)), (2, .int (nI 0)), (3, .int (nI (cw A 1 t (aW A)))), (4, .int (nI (max (cw A 1 t (aW A)) (aB A t)))), (5, .int (nI 0))] dX3_spanOf_44 hN5 rfl ?_
      refine r_iconst hX (nI 0) dX3_spanOf_46 rfl ?_
      refine r_istore hX [(0, .ref (L.1 (b + 0))), (1, .int (nI t)), (2, .int (nI 0)), (3, .int (nI (cw A 1 t (aW A)))), (4, .int (nI (max (cw A 1 t (aW A)) (aB A t)))), (5, .int (nI 0)), (6, .int (nI 0))] dX3_spanOf_47 hN6 rfl ?_
      have P3 : ∀ k, k ≤ aW A → At X L σ 0 0 [(0, .ref (L.1 (b + 0))), (1, .int (nI t)), (2, .int (nI 0)), (3, .int (nI (cw A 1 t (aW A)))), (4, .int (nI (max (cw A 1 t (aW A)) (aB A t)))), (5, .int (nI (0 + sm A t (gS A) k))), (6, .int (nI k))] 49 [] := by
        refine loopUp (aW A) ?_ ?_
        · skip
          refine r_iload hX dX3_spanOf_49 rfl ?_
          refine r_aload_n hX dX3_spanOf_51 rfl ?_
          refine r_getR hX dX3_spanOf_52 fl_X3_31 (hC.1 0 (2, 0) rfl) rfl (hC.2.1 0 5 4 rfl) ?_
          refine r_getIV hX dX3_spanOf_55 fl_X3_112 (hC.1 4 (7, 0) rfl) rfl (nI (aW A)) hW.1 ?_
          refine r_icmpN_ge hX dX3_spanOf_58 (by omega) (by omega) (fun c4 => ?_) (fun c4 => absurd c4 (by omega))
          refine r_iload hX dX3_spanOf_95 rfl ?_
          refine r_iload hX dX3_spanOf_97 rfl ?_
          refine r_idivN hX dX3_spanOf_99 (by omega) (by omega) (by omega) ?_
          exact r_ireturn hX hQ dX3_spanOf_100 ⟨Nat.le_of_ble_eq_true rfl, Nat.le_of_ble_eq_true rfl⟩ (PF.mk (by unfold spI; rw [Nat.max_comm (aB A t), if_neg c1, if_neg (by decide), Nat.add_comm (sS A t)]; rfl))
        · skip
          intro k hk ih5
          have hwf := hV.2.2.2.2.2.2.1 k hk
          refine r_iload hX dX3_spanOf_49 rfl ?_
          refine r_aload_n hX dX3_spanOf_51 rfl ?_
          refine r_getR hX dX3_spanOf_52 fl_X3_31 (hC.1 0 (2, 0) rfl) rfl (hC.2.1 0 5 4 rfl) ?_
          refine r_getIV hX dX3_spanOf_55 fl_X3_112 (hC.1 4 (7, 0) rfl) rfl (nI (aW A)) hW.1 ?_
          refine r_icmpN_ge hX dX3_spanOf_58 (by omega) (by omega) (fun c6 => absurd c6 (by omega)) (fun c6 => ?_)
          refine r_aload_n hX dX3_spanOf_61 rfl ?_
          refine r_getR hX dX3_spanOf_62 fl_X3_31 (hC.1 0 (2, 0) rfl) rfl (hC.2.1 0 5 4 rfl) ?_
          refine r_getR hX dX3_spanOf_65 fl_X3_115 (hC.1 4 (7, 0) rfl) rfl (hC.2.1 4 2 10 rfl) ?_
          refine r_iload hX dX3_spanOf_68 rfl ?_
          refine r_aldN hX dX3_spanOf_70 (hC.1 10 (10, 24) rfl) (by decide) (by omega) (nI (aF A k 1)) (hW.2.2.1 k (by omega)) ?_
          refine r_iload_n hX dX3_spanOf_71 rfl ?_
          refine r_icmpN_ne hX dX3_spanOf_72 (by omega) (by omega) (fun c7 => ?_) (fun c7 => ?_)
          · skip
            refine r_iincN (n := 1) hX [(0, .ref (L.1 (b + 0))), (1, .int (nI t)), (2, .int (nI 0)), (3, .int (nI (cw A 1 t (aW A)))), (4, .int (nI (max (cw A 1 t (aW A)) (aB A t)))), (5, .int (nI (0 + sm A t (gS A) k))), (6, .int (nI (k + 1)))] dX3_spanOf_89 rfl hN6 rfl ?_
            refine r_goto hX dX3_spanOf_92 ?_
            have q8 : 0 + sm A t (gS A) (k + 1) = 0 + sm A t (gS A) k := (by rw [sm, if_neg c7]; try rfl)
            exact At.to ih5 (by rw [q8]) rfl rfl
          · skip
            refine r_iload hX dX3_spanOf_75 rfl ?_
            refine r_aload_n hX dX3_spanOf_77 rfl ?_
            refine r_getR hX dX3_spanOf_78 fl_X3_31 (hC.1 0 (2, 0) rfl) rfl (hC.2.1 0 5 4 rfl) ?_
            refine r_iload hX dX3_spanOf_81 rfl ?_
            refine r_callVF (As := [.int (nI k)]) (rest := [.int (nI (0 + sm A t (gS A) k))]) hX (c_X8_saysOf b hC σ A hW hV k (by omega)) dX3_spanOf_83 cb_X3_121 (hC.1 4 (7, 0) rfl) rfl rfl ⟨Nat.le_of_ble_eq_true rfl, Nat.le_of_ble_eq_true rfl⟩ ⟨Nat.le_of_ble_eq_true rfl, Nat.le_of_ble_eq_true rfl⟩ (Nat.le_of_ble_eq_true rfl) ?_
            refine r_iaddN hX dX3_spanOf_86 ?_
            refine r_istore hX [(0, .ref (L.1 (b + 0))), (1, .int (nI t)), (2, .int (nI 0)), (3, .int (nI (cw A 1 t (aW A)))), (4, .int (nI (max (cw A 1 t (aW A)) (aB A t)))), (5, .int (nI (0 + sm A t (gS A) k + (sayN (aF A k 0) (aF A k 4))))), (6, .int (nI k))] dX3_spanOf_87 hN5 rfl ?_
            refine r_iincN (n := 1) hX [(0, .ref (L.1 (b + 0))), (1, .int (nI t)), (2, .int (nI 0)), (3, .int (nI (cw A 1 t (aW A)))), (4, .int (nI (max (cw A 1 t (aW A)) (aB A t)))), (5, .int (nI (0 + sm A t (gS A) k + (sayN (aF A k 0) (aF A k 4))))), (6, .int (nI (k + 1)))] dX3_spanOf_89 rfl hN6 rfl ?_
            refine r_goto hX dX3_spanOf_92 ?_
            have q9 : 0 + sm A t (gS A) (k + 1) = 0 + sm A t (gS A) k + (sayN (aF A k 0) (aF A k 4)) := (by rw [sm, if_pos c7]; unfold gS; omega)
            exact At.to ih5 (by rw [q9]) rfl rfl
      exact At.to (P3 0 (Nat.zero_le _)) rfl rfl rfl
    · skip
      refine r_ldc hX dX3_spanOf_26 ko_X3_124 ?_
      exact r_ireturn hX hQ dX3_spanOf_28 ⟨Nat.le_of_ble_eq_true rfl, Nat.le_of_ble_eq_true rfl⟩ (PF.mk (by unfold spI; rw [Nat.max_comm (aB A t), if_pos c1]))
  · skip
    refine r_aload_n hX dX3_spanOf_0 rfl ?_
    refine r_getR hX dX3_spanOf_1 fl_X3_31 (hC.1 0 (2, 0) rfl) rfl (hC.2.1 0 5 4 rfl) ?_
    refine r_iload_n hX dX3_spanOf_4 rfl ?_
    refine r_callVF (As := [.int (nI t)]) (rest := []) hX (c_X8_countOf b hC σ A hW hV t (by omega)) dX3_spanOf_5 cb_X3_125 (hC.1 4 (7, 0) rfl) rfl rfl ⟨Nat.le_of_ble_eq_true rfl, Nat.le_of_ble_eq_true rfl⟩ ⟨Nat.le_of_ble_eq_true rfl, Nat.le_of_ble_eq_true rfl⟩ (Nat.le_of_ble_eq_true rfl) ?_
    refine r_istore_n hX [(0, .ref (L.1 (b + 0))), (1, .int (nI t)), (2, .int (nI 1)), (3, .int (nI (cw A 1 t (aW A))))] dX3_spanOf_8 hN3 rfl ?_
    refine r_iload_n hX dX3_spanOf_9 rfl ?_
    refine r_aload_n hX dX3_spanOf_10 rfl ?_
    refine r_getR hX dX3_spanOf_11 fl_X3_19 (hC.1 0 (2, 0) rfl) rfl (hC.2.1 0 2 2 rfl) ?_
    refine r_iload_n hX dX3_spanOf_14 rfl ?_
    refine r_aldN hX dX3_spanOf_15 (hC.1 2 (10, 6) rfl) (by decide) (by omega) (nI (aB A t)) (h0.2.2.2.2.2.1 t (by omega)) ?_
    refine r_max hX dX3_spanOf_16 cb_X3_76 ⟨Nat.le_of_ble_eq_true rfl, Nat.le_of_ble_eq_true rfl⟩ ⟨Nat.le_of_ble_eq_true rfl, Nat.le_of_ble_eq_true rfl⟩ (Nat.le_of_ble_eq_true rfl) (nI (max (cw A 1 t (aW A)) (aB A t))) (mxI_n (by omega) (by omega)) ?_
    refine r_istore hX [(0, .ref (L.1 (b + 0))), (1, .int (nI t)), (2, .int (nI 1)), (3, .int (nI (cw A 1 t (aW A)))), (4, .int (nI (max (cw A 1 t (aW A)) (aB A t))))] dX3_spanOf_19 hN4 rfl ?_
    refine r_iload hX dX3_spanOf_21 rfl ?_
    refine r_ifN_ne hX dX3_spanOf_23 (by omega) (fun c10 => ?_) (fun c10 => ?_)
    · skip
      refine r_iload_n hX dX3_spanOf_29 rfl ?_
      refine r_ifN_eq hX dX3_spanOf_30 (by decide) (fun c11 => absurd c11 (by decide)) (fun c11 => ?_)
      refine r_bipush hX (nI 100) dX3_spanOf_33 rfl ?_
      refine r_iload hX dX3_spanOf_35 rfl ?_
      refine r_iload_n hX dX3_spanOf_37 rfl ?_
      refine r_isubN hX dX3_spanOf_38 (by omega) ?_
      refine r_imulN hX dX3_spanOf_39 ?_
      refine r_goto hX dX3_spanOf_40 ?_
      refine r_istore hX [(0, .ref (L.1 (b + 0))), (1, .int (nI t)), (2, .int (nI 1)), (3, .int (nI (cw A 1 t (aW A)))), (4, .int (nI (max (cw A 1 t (aW A)) (aB A t)))), (5, .int (nI (100 * (max (cw A 1 t (aW A)) (aB A t) - (cw A 1 t (aW A))))))] dX3_spanOf_44 hN5 rfl ?_
      refine r_iconst hX (nI 0) dX3_spanOf_46 rfl ?_
      refine r_istore hX [(0, .ref (L.1 (b + 0))), (1, .int (nI t)), (2, .int (nI 1)), (3, .int (nI (cw A 1 t (aW A)))), (4, .int (nI (max (cw A 1 t (aW A)) (aB A t)))), (5, .int (nI (100 * (max (cw A 1 t (aW A)) (aB A t) - (cw A 1 t (aW A)))))), (6, .int (nI 0))] dX3_spanOf_47 hN6 rfl ?_
      have P12 : ∀ k, k ≤ aW A → At X L σ 0 0 [(0, .ref (L.1 (b + 0))), (1, .int (nI t)), (2, .int (nI 1)), (3, .int (nI (cw A 1 t (aW A)))), (4, .int (nI (max (cw A 1 t (aW A)) (aB A t)))), (5, .int (nI (100 * (max (cw A 1 t (aW A)) (aB A t) - cw A 1 t (aW A)) + sm A t (gS A) k))), (6, .int (nI k))] 49 [] := by
        refine loopUp (aW A) ?_ ?_
        · skip
          refine r_iload hX dX3_spanOf_49 rfl ?_
          refine r_aload_n hX dX3_spanOf_51 rfl ?_
          refine r_getR hX dX3_spanOf_52 fl_X3_31 (hC.1 0 (2, 0) rfl) rfl (hC.2.1 0 5 4 rfl) ?_
          refine r_getIV hX dX3_spanOf_55 fl_X3_112 (hC.1 4 (7, 0) rfl) rfl (nI (aW A)) hW.1 ?_
          refine r_icmpN_ge hX dX3_spanOf_58 (by omega) (by omega) (fun c13 => ?_) (fun c13 => absurd c13 (by omega))
          refine r_iload hX dX3_spanOf_95 rfl ?_
          refine r_iload hX dX3_spanOf_97 rfl ?_
          refine r_idivN hX dX3_spanOf_99 (by omega) (by omega) (by omega) ?_
          exact r_ireturn hX hQ dX3_spanOf_100 ⟨Nat.le_of_ble_eq_true rfl, Nat.le_of_ble_eq_true rfl⟩ (PF.mk (by unfold spI; rw [Nat.max_comm (aB A t), if_neg c10, if_pos rfl, Nat.add_comm (sS A t)]; rfl))
        · skip
          intro k hk ih14
          have hwf := hV.2.2.2.2.2.2.1 k hk
          refine r_iload hX dX3_spanOf_49 rfl ?_
          refine r_aload_n hX dX3_spanOf_51 rfl ?_
          refine r_getR hX dX3_spanOf_52 fl_X3_31 (hC.1 0 (2, 0) rfl) rfl (hC.2.1 0 5 4 rfl) ?_
          refine r_getIV hX dX3_spanOf_55 fl_X3_112 (hC.1 4 (7, 0) rfl) rfl (nI (aW A)) hW.1 ?_
          refine r_icmpN_ge hX dX3_spanOf_58 (by omega) (by omega) (fun c15 => absurd c15 (by omega)) (fun c15 => ?_)
          refine r_aload_n hX dX3_spanOf_61 rfl ?_
          refine r_getR hX dX3_spanOf_62 fl_X3_31 (hC.1 0 (2, 0) rfl) rfl (hC.2.1 0 5 4 rfl) ?_
          refine r_getR hX dX3_spanOf_65 fl_X3_115 (hC.1 4 (7, 0) rfl) rfl (hC.2.1 4 2 10 rfl) ?_
          refine r_iload hX dX3_spanOf_68 rfl ?_
          refine r_aldN hX dX3_spanOf_70 (hC.1 10 (10, 24) rfl) (by decide) (by omega) (nI (aF A k 1)) (hW.2.2.1 k (by omega)) ?_
          refine r_iload_n hX dX3_spanOf_71 rfl ?_
          refine r_icmpN_ne hX dX3_spanOf_72 (by omega) (by omega) (fun c16 => ?_) (fun c16 => ?_)
          · skip
            refine r_iincN (n := 1) hX [(0, .ref (L.1 (b + 0))), (1, .int (nI t)), (2, .int (nI 1)), (3, .int (nI (cw A 1 t (aW A)))), (4, .int (nI (max (cw A 1 t (aW A)) (aB A t)))), (5, .int (nI (100 * (max (cw A 1 t (aW A)) (aB A t) - cw A 1 t (aW A)) + sm A t (gS A) k))), (6, .int (nI (k + 1)))] dX3_spanOf_89 rfl hN6 rfl ?_
            refine r_goto hX dX3_spanOf_92 ?_
            have q17 : 100 * (max (cw A 1 t (aW A)) (aB A t) - cw A 1 t (aW A)) + sm A t (gS A) (k + 1) = 100 * (max (cw A 1 t (aW A)) (aB A t) - cw A 1 t (aW A)) + sm A t (gS A) k := (by rw [sm, if_neg c16]; try rfl)
            exact At.to ih14 (by rw [q17]) rfl rfl
          · skip
            refine r_iload hX dX3_spanOf_75 rfl ?_
            refine r_aload_n hX dX3_spanOf_77 rfl ?_
            refine r_getR hX dX3_spanOf_78 fl_X3_31 (hC.1 0 (2, 0) rfl) rfl (hC.2.1 0 5 4 rfl) ?_
            refine r_iload hX dX3_spanOf_81 rfl ?_
            refine r_callVF (As := [.int (nI k)]) (rest := [.int (nI (100 * (max (cw A 1 t (aW A)) (aB A t) - cw A 1 t (aW A)) + sm A t (gS A) k))]) hX (c_X8_saysOf b hC σ A hW hV k (by omega)) dX3_spanOf_83 cb_X3_121 (hC.1 4 (7, 0) rfl) rfl rfl ⟨Nat.le_of_ble_eq_true rfl, Nat.le_of_ble_eq_true rfl⟩ ⟨Nat.le_of_ble_eq_true rfl, Nat.le_of_ble_eq_true rfl⟩ (Nat.le_of_ble_eq_true rfl) ?_
            refine r_iaddN hX dX3_spanOf_86 ?_
            refine r_istore hX [(0, .ref (L.1 (b + 0))), (1, .int (nI t)), (2, .int (nI 1)), (3, .int (nI (cw A 1 t (aW A)))), (4, .int (nI (max (cw A 1 t (aW A)) (aB A t)))), (5, .int (nI ((100 * (max (cw A 1 t (aW A)) (aB A t) - cw A 1 t (aW A)) + sm A t (gS A) k) + (sayN (aF A k 0) (aF A k 4))))), (6, .int (nI k))] dX3_spanOf_87 hN5 rfl ?_
            refine r_iincN (n := 1) hX [(0, .ref (L.1 (b + 0))), (1, .int (nI t)), (2, .int (nI 1)), (3, .int (nI (cw A 1 t (aW A)))), (4, .int (nI (max (cw A 1 t (aW A)) (aB A t)))), (5, .int (nI ((100 * (max (cw A 1 t (aW A)) (aB A t) - cw A 1 t (aW A)) + sm A t (gS A) k) + (sayN (aF A k 0) (aF A k 4))))), (6, .int (nI (k + 1)))] dX3_spanOf_89 rfl hN6 rfl ?_
            refine r_goto hX dX3_spanOf_92 ?_
            have q18 : 100 * (max (cw A 1 t (aW A)) (aB A t) - cw A 1 t (aW A)) + sm A t (gS A) (k + 1) = (100 * (max (cw A 1 t (aW A)) (aB A t) - cw A 1 t (aW A)) + sm A t (gS A) k) + (sayN (aF A k 0) (aF A k 4)) := (by rw [sm, if_pos c16]; unfold gS; omega)
            exact At.to ih14 (by rw [q18]) rfl rfl
      exact At.to (P12 0 (Nat.zero_le _)) rfl rfl rfl
    · skip
      refine r_ldc hX dX3_spanOf_26 ko_X3_124 ?_
      exact r_ireturn hX hQ dX3_spanOf_28 ⟨Nat.le_of_ble_eq_true rfl, Nat.le_of_ble_eq_true rfl⟩ (PF.mk (by unfold spI; rw [Nat.max_comm (aB A t), if_pos c10]))

set_option maxHeartbeats 4000000 in
set_option maxRecDepth 100000 in
theorem c_X3_rank {l : Launch} {D : Ds} {L : La}  (b : Nat) (hC : RAt L b) (σ : Me) (A : Al) (h0 : R0 σ b A) (hW : RW σ b A) (hTx : RX' L σ b A) (hV : Va A) : Ct l yX3_rank cX3_rank 4 none { frames := 4, cells := 0, slots := 0, locals := 100 } D L σ [.ref (L.1 (b + 0))] (PV L (fun σ2 => (∀ i, i < aT A → σ2 (b + 7) i = shI A i) ∧ Cs σ σ2)) := by
  refine Ct.of (by decide) (Nat.le_of_ble_eq_true rfl) ?_
  intro X hl hD hnl hX0 hQ
  have hX : Ok X cX3_rank RX3 "rank" { frames := 4, cells := 0, slots := 0, locals := 100 } none := hX0
  have hN1 : 1 < xn X := by rw [hnl]; decide
  have hN2 : 2 < xn X := by rw [hnl]; decide
  have hN3 : 3 < xn X := by rw [hnl]; decide
  have hbb := hC.2.2
  have hW24 := hV.2.2.1
  have hT6 := hV.1
  have hN12 := hV.2.1
  have hX14 := hV.2.2.2.1
  show At X L σ 0 0 [(0, .ref (L.1 (b + 0)))] 0 []
  rcases hO : lst A 2 (aX A).length with _ | x
  · skip
    refine r_aload_n hX dX3_rank_0 rfl ?_
    refine r_iconst hX (nI 2) dX3_rank_1 rfl ?_
    refine r_callVR (As := [.int (nI 2)]) (rest := []) hX (c_X3_lawOf0 b hC σ A h0 2 (by decide) hO) dX3_rank_2 cb_X3_79 (hC.1 0 (2, 0) rfl) rfl rfl ⟨Nat.le_of_ble_eq_true rfl, Nat.le_of_ble_eq_true rfl⟩ ⟨Nat.le_of_ble_eq_true rfl, Nat.le_of_ble_eq_true rfl⟩ (Nat.le_of_ble_eq_true rfl) ?_
    refine r_astore_nN hX [(0, .ref (L.1 (b + 0))), (1, .null)] dX3_rank_5 hN1 rfl ?_
    refine r_iconst hX (nI 0) dX3_rank_6 rfl ?_
    refine r_istore_n hX [(0, .ref (L.1 (b + 0))), (1, .null), (2, .int (nI 0))] dX3_rank_7 hN2 rfl ?_
    have P1 : ∀ k, k ≤ aT A → ∀ (σk : Me) (hSk : Cs σ σk) (hVk : ∀ i, i < k → σk (b + 7) i = shI A i), At X L σk 0 0 [(0, .ref (L.1 (b + 0))), (1, .null), (2, .int (nI k))] 8 [] := by
      refine loopUp (aT A) ?_ ?_
      · skip
        intro σk hSk hVk
        have g0 := h0.cs hC hSk
        have gW := hW.cs hC hSk
        have gX := hTx.cs hSk
        refine r_iload_n hX dX3_rank_8 rfl ?_
        refine r_aload_n hX dX3_rank_9 rfl ?_
        refine r_getIV hX dX3_rank_10 fl_X3_9 (hC.1 0 (2, 0) rfl) rfl (nI (aT A)) g0.1 ?_
        refine r_icmpN_ge hX dX3_rank_13 (by omega) (by omega) (fun c2 => ?_) (fun c2 => absurd c2 (by omega))
        exact r_return hX hQ dX3_rank_69 ⟨Nat.le_of_ble_eq_true rfl, Nat.le_of_ble_eq_true rfl⟩ (PV.mk ⟨hVk, hSk⟩)
      · skip
        intro k hk ih3 σk hSk hVk
        have g0 := h0.cs hC hSk
        have gW := hW.cs hC hSk
        have gX := hTx.cs hSk
        refine r_iload_n hX dX3_rank_8 rfl ?_
        refine r_aload_n hX dX3_rank_9 rfl ?_
        refine r_getIV hX dX3_rank_10 fl_X3_9 (hC.1 0 (2, 0) rfl) rfl (nI (aT A)) g0.1 ?_
        refine r_icmpN_ge hX dX3_rank_13 (by omega) (by omega) (fun c4 => absurd c4 (by omega)) (fun c4 => ?_)
        refine r_aload_n hX dX3_rank_16 rfl ?_
        refine r_getR hX dX3_rank_17 fl_X3_31 (hC.1 0 (2, 0) rfl) rfl (hC.2.1 0 5 4 rfl) ?_
        refine r_iload_n hX dX3_rank_20 rfl ?_
        refine r_callVF (As := [.int (nI k)]) (rest := []) hX (c_X8_meanOrZero b hC σk A gW hV k (by omega)) dX3_rank_21 cb_X3_128 (hC.1 4 (7, 0) rfl) rfl rfl ⟨Nat.le_of_ble_eq_true rfl, Nat.le_of_ble_eq_true rfl⟩ ⟨Nat.le_of_ble_eq_true rfl, Nat.le_of_ble_eq_true rfl⟩ (Nat.le_of_ble_eq_true rfl) ?_
        refine r_istore_n hX [(0, .ref (L.1 (b + 0))), (1, .null), (2, .int (nI k)), (3, .int (nI (mz A k)))] dX3_rank_24 hN3 rfl ?_
        refine r_aload_n hX dX3_rank_25 rfl ?_
        refine r_getR hX dX3_rank_26 fl_X3_50 (hC.1 0 (2, 0) rfl) rfl (hC.2.1 0 10 7 rfl) ?_
        refine r_iload_n hX dX3_rank_29 rfl ?_
        refine r_aload_nN hX dX3_rank_30 rfl ?_
        refine r_ifnonnullN hX dX3_rank_31 ?_
        refine r_iload_n hX dX3_rank_34 rfl ?_
        refine r_goto hX dX3_rank_35 ?_
        refine r_astN hX dX3_rank_62 (hC.1 7 (10, 6) rfl) (by decide) (by omega) ?_
        refine r_iincN (n := 1) hX [(0, .ref (L.1 (b + 0))), (1, .null), (2, .int (nI (k + 1))), (3, .int (nI (mz A k)))] dX3_rank_63 rfl hN2 rfl ?_
        refine r_goto hX dX3_rank_66 ?_
        exact At.less (At.to (ls := [(0, .ref (L.1 (b + 0))), (1, .null), (2, .int (nI (k + 1)))]) (ih3 _ (Cs.up hSk (by unfold sc; omega)) (fun i hi => if e : i = k then (by rw [e, up_s]; unfold shI; rw [hO]) else (by rw [up_n (by omega)]; exact hVk i (by omega)))) rfl rfl rfl) (by simp)
    exact At.to (P1 0 (Nat.zero_le _) σ (Cs.rf σ) (fun i hi => absurd hi (Nat.not_lt_zero i))) rfl rfl rfl
  · skip
    obtain ⟨hxl, hxk⟩ := lst_lt hO
    obtain ⟨o, ho1, ho3, ho, hx, hT⟩ := hTx x hxl
    have hok := okT_at hV hxl
    refine r_aload_n hX dX3_rank_0 rfl ?_
    refine r_iconst hX (nI 2) dX3_rank_1 rfl ?_
    refine r_callVR (As := [.int (nI 2)]) (rest := []) hX (c_X3_lawOf1 b hC σ A h0 2 x o (by decide) hO hX14 ho) dX3_rank_2 cb_X3_79 (hC.1 0 (2, 0) rfl) rfl rfl ⟨Nat.le_of_ble_eq_true rfl, Nat.le_of_ble_eq_true rfl⟩ ⟨Nat.le_of_ble_eq_true rfl, Nat.le_of_ble_eq_true rfl⟩ (Nat.le_of_ble_eq_true rfl) ?_
    refine r_astore_n hX [(0, .ref (L.1 (b + 0))), (1, .ref (L.1 o))] dX3_rank_5 hN1 rfl ?_
    refine r_iconst hX (nI 0) dX3_rank_6 rfl ?_
    refine r_istore_n hX [(0, .ref (L.1 (b + 0))), (1, .ref (L.1 o)), (2, .int (nI 0))] dX3_rank_7 hN2 rfl ?_
    have P5 : ∀ k, k ≤ aT A → ∀ (σk : Me) (hSk : Cs σ σk) (hVk : ∀ i, i < k → σk (b + 7) i = shI A i), At X L σk 0 0 [(0, .ref (L.1 (b + 0))), (1, .ref (L.1 o)), (2, .int (nI k))] 8 [] := by
      refine loopUp (aT A) ?_ ?_
      · skip
        intro σk hSk hVk
        have g0 := h0.cs hC hSk
        have gW := hW.cs hC hSk
        have gX := hTx.cs hSk
        refine r_iload_n hX dX3_rank_8 rfl ?_
        refine r_aload_n hX dX3_rank_9 rfl ?_
        refine r_getIV hX dX3_rank_10 fl_X3_9 (hC.1 0 (2, 0) rfl) rfl (nI (aT A)) g0.1 ?_
        refine r_icmpN_ge hX dX3_rank_13 (by omega) (by omega) (fun c6 => ?_) (fun c6 => absurd c6 (by omega))
        exact r_return hX hQ dX3_rank_69 ⟨Nat.le_of_ble_eq_true rfl, Nat.le_of_ble_eq_true rfl⟩ (PV.mk ⟨hVk, hSk⟩)
      · skip
        intro k hk ih7 σk hSk hVk
        have g0 := h0.cs hC hSk
        have gW := hW.cs hC hSk
        have gX := hTx.cs hSk
        refine r_iload_n hX dX3_rank_8 rfl ?_
        refine r_aload_n hX dX3_rank_9 rfl ?_
        refine r_getIV hX dX3_rank_10 fl_X3_9 (hC.1 0 (2, 0) rfl) rfl (nI (aT A)) g0.1 ?_
        refine r_icmpN_ge hX dX3_rank_13 (by omega) (by omega) (fun c8 => absurd c8 (by omega)) (fun c8 => ?_)
        refine r_aload_n hX dX3_rank_16 rfl ?_
        refine r_getR hX dX3_rank_17 fl_X3_31 (hC.1 0 (2, 0) rfl) rfl (hC.2.1 0 5 4 rfl) ?_
        refine r_iload_n hX dX3_rank_20 rfl ?_
        refine r_callVF (As := [.int (nI k)]) (rest := []) hX (c_X8_meanOrZero b hC σk A gW hV k (by omega)) dX3_rank_21 cb_X3_128 (hC.1 4 (7, 0) rfl) rfl rfl ⟨Nat.le_of_ble_eq_true rfl, Nat.le_of_ble_eq_true rfl⟩ ⟨Nat.le_of_ble_eq_true rfl, Nat.le_of_ble_eq_true rfl⟩ (Nat.le_of_ble_eq_true rfl) ?_
        refine r_istore_n hX [(0, .ref (L.1 (b + 0))), (1, .ref (L.1 o)), (2, .int (nI k)), (3, .int (nI (mz A k)))] dX3_rank_24 hN3 rfl ?_
        refine r_aload_n hX dX3_rank_25 rfl ?_
        refine r_getR hX dX3_rank_26 fl_X3_50 (hC.1 0 (2, 0) rfl) rfl (hC.2.1 0 10 7 rfl) ?_
        refine r_iload_n hX dX3_rank_29 rfl ?_
        refine r_aload_n hX dX3_rank_30 rfl ?_
        refine r_ifnonnull hX dX3_rank_31 ?_
        refine r_aload_n hX dX3_rank_38 rfl ?_
        refine r_iload_n hX dX3_rank_39 rfl ?_
        refine r_iconst hX (nI 0) dX3_rank_40 rfl ?_
        refine r_aload_n hX dX3_rank_41 rfl ?_
        refine r_iload_n hX dX3_rank_42 rfl ?_
        refine r_iconst hX (nI 1) dX3_rank_43 rfl ?_
        refine r_callVI (As := [.int (nI k), .int (nI 1)]) (rest := [.int (nI 0), .int (nI (mz A k)), .ref (L.1 o), .int (nI k), .ref (L.1 (b + 7))]) hX (c_X3_weighedOf b hC σk A g0 gW gX hV k 1 (by omega) (by decide)) dX3_rank_44 cb_X3_131 (hC.1 0 (2, 0) rfl) rfl rfl ⟨Nat.le_of_ble_eq_true rfl, Nat.le_of_ble_eq_true rfl⟩ ⟨Nat.le_of_ble_eq_true rfl, Nat.le_of_ble_eq_true rfl⟩ (Nat.le_of_ble_eq_true rfl) (fun r9 σ10 h11 => ?_)
        obtain ⟨rfl, hS12⟩ := h11
        have g014 := R0.cs g0 hC hS12.cs
        have gW15 := RW.cs gW hC hS12.cs
        have gX16 := RX'.cs gX hS12.cs
        refine r_max hX dX3_rank_47 cb_X3_76 ⟨Nat.le_of_ble_eq_true rfl, Nat.le_of_ble_eq_true rfl⟩ ⟨Nat.le_of_ble_eq_true rfl, Nat.le_of_ble_eq_true rfl⟩ (Nat.le_of_ble_eq_true rfl) (nI (wz A k)) (wz_mx hV k) ?_
        refine r_aload_n hX dX3_rank_50 rfl ?_
        refine r_getR hX dX3_rank_51 fl_X3_31 (hC.1 0 (2, 0) rfl) rfl (hC.2.1 0 5 4 rfl) ?_
        refine r_iload_n hX dX3_rank_54 rfl ?_
        refine r_callVF (As := [.int (nI k)]) (rest := [.int (nI (wz A k)), .int (nI (mz A k)), .ref (L.1 o), .int (nI k), .ref (L.1 (b + 7))]) hX (c_X8_countOf b hC σ10 A gW15 hV k (by omega)) dX3_rank_55 cb_X3_125 (hC.1 4 (7, 0) rfl) rfl rfl ⟨Nat.le_of_ble_eq_true rfl, Nat.le_of_ble_eq_true rfl⟩ ⟨Nat.le_of_ble_eq_true rfl, Nat.le_of_ble_eq_true rfl⟩ (Nat.le_of_ble_eq_true rfl) ?_
        refine r_iconst hX (nI 0) dX3_rank_58 rfl ?_
        refine r_callVI (As := [.int (nI (mz A k)), .int (nI (wz A k)), .int (nI (cw A 1 k (aW A))), .int (nI 0)]) (rest := [.int (nI k), .ref (L.1 (b + 7))]) hX (c_X7_gives o (tx A x) hx hok σ10 (hT.cs ho1 ho3 (Cs.tr hSk hS12.cs)) (nI (mz A k)) (nI (wz A k)) (nI (cw A 1 k (aW A))) (nI 0)) dX3_rank_59 cb_X3_92 hx.1 rfl rfl ⟨Nat.le_of_ble_eq_true rfl, Nat.le_of_ble_eq_true rfl⟩ ⟨Nat.le_of_ble_eq_true rfl, Nat.le_of_ble_eq_true rfl⟩ (Nat.le_of_ble_eq_true rfl) (fun r17 σ18 h19 => ?_)
        obtain ⟨hE21, hS20⟩ := h19
        replace hS20 := hS20.cp ho1 ho3
        rw [evV_cong hok (g := fS A k) (fun i hi => by rw [hxk] at hi ⊢; exact fS_f4 _ i hi)] at hE21
        subst hE21
        have g022 := R0.cs g014 hC hS20.cs
        have gW23 := RW.cs gW15 hC hS20.cs
        have gX24 := RX'.cs gX16 hS20.cs
        refine r_astN hX dX3_rank_62 (hC.1 7 (10, 6) rfl) (by decide) (by omega) ?_
        refine r_iincN (n := 1) hX [(0, .ref (L.1 (b + 0))), (1, .ref (L.1 o)), (2, .int (nI (k + 1))), (3, .int (nI (mz A k)))] dX3_rank_63 rfl hN2 rfl ?_
        refine r_goto hX dX3_rank_66 ?_
        exact At.less (At.to (ls := [(0, .ref (L.1 (b + 0))), (1, .ref (L.1 o)), (2, .int (nI (k + 1)))]) (ih7 _ (Cs.up (Cs.tr (Cs.tr hSk hS12.cs) hS20.cs) (by unfold sc; omega)) (fun i hi => if e : i = k then (by rw [e, up_s]; unfold shI; rw [hO]) else (by rw [up_n (by omega)]; exact ((hS20 (b + 7) i (by omega)).trans ((hS12 (b + 7) i (by omega)).trans (hVk i (by omega))))))) rfl rfl rfl) (by simp)
    exact At.to (P5 0 (Nat.zero_le _) σ (Cs.rf σ) (fun i hi => absurd hi (Nat.not_lt_zero i))) rfl rfl rfl
