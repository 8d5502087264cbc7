set_option maxHeartbeats 4000000 in
set_option maxRecDepth 100000 in
theorem c_X8_write {l : Launch} {D : Ds} {L : La}  (b : Nat) (hC : RAt L b) (σ : Me) (A : Al) (hW : RW σ b A) (hV : Va A) (k t n h s : Nat) : Ct l yX8_write cX8_write 7 (some .int) { frames := 0, cells := 0, slots := 0, locals := 0 } D L σ [.ref (L.1 (b + 4)), .int (nI k), .int (nI t), .int (nI n), .int (nI h), .int (nI s)] (PI L (fun r σ2 => r = wrI A ∧ RW σ2 b (wrA A k t n h s) ∧ Wf b σ σ2)) := by
  refine Ct.of (by decide) (Nat.le_of_ble_eq_true rfl) ?_
  intro X hl hD hnl hX0 hQ
  have hX : Ok X cX8_write RX8 "write" { frames := 0, cells := 0, slots := 0, locals := 0 } (some .int) := hX0
  have hN6 : 6 < xn X := by rw [hnl]; decide
  have hW24 := hV.2.2.1
  show At X L σ 0 0 [(0, .ref (L.1 (b + 4))), (1, .int (nI k)), (2, .int (nI t)), (3, .int (nI n)), (4, .int (nI h)), (5, .int (nI s))] 0 []
  refine r_aload_n hX dX8_write_0 rfl ?_
  refine r_getIV hX dX8_write_1 fl_X8_9 (hC.1 4 (7, 0) rfl) rfl (nI (aW A)) hW.1 ?_
  refine r_istore hX [(0, .ref (L.1 (b + 4))), (1, .int (nI k)), (2, .int (nI t)), (3, .int (nI n)), (4, .int (nI h)), (5, .int (nI s)), (6, .int (nI (aW A)))] dX8_write_4 hN6 rfl ?_
  refine r_iload hX dX8_write_6 rfl ?_
  refine r_bipush hX (nI 24) dX8_write_8 rfl ?_
  refine r_icmpN_lt hX dX8_write_10 (by omega) (by decide) (fun c1 => ?_) (fun c1 => ?_)
  · skip
    refine r_aload_n hX dX8_write_16 rfl ?_
    refine r_getR hX dX8_write_17 fl_X8_15 (hC.1 4 (7, 0) rfl) rfl (hC.2.1 4 1 9 rfl) ?_
    refine r_iload hX dX8_write_20 rfl ?_
    refine r_iload_n hX dX8_write_22 rfl ?_
    refine r_astN hX dX8_write_23 (hC.1 9 (10, 24) rfl) (by decide) (by omega) ?_
    refine r_aload_n hX dX8_write_24 rfl ?_
    refine r_getR hX dX8_write_25 fl_X8_19 (hC.1 4 (7, 0) rfl) rfl (hC.2.1 4 2 10 rfl) ?_
    refine r_iload hX dX8_write_28 rfl ?_
    refine r_iload_n hX dX8_write_30 rfl ?_
    refine r_astN hX dX8_write_31 (hC.1 10 (10, 24) rfl) (by decide) (by omega) ?_
    refine r_aload_n hX dX8_write_32 rfl ?_
    refine r_getR hX dX8_write_33 fl_X8_22 (hC.1 4 (7, 0) rfl) rfl (hC.2.1 4 3 11 rfl) ?_
    refine r_iload hX dX8_write_36 rfl ?_
    refine r_iload_n hX dX8_write_38 rfl ?_
    refine r_astN hX dX8_write_39 (hC.1 11 (10, 24) rfl) (by decide) (by omega) ?_
    refine r_aload_n hX dX8_write_40 rfl ?_
    refine r_getR hX dX8_write_41 fl_X8_25 (hC.1 4 (7, 0) rfl) rfl (hC.2.1 4 4 12 rfl) ?_
    refine r_iload hX dX8_write_44 rfl ?_
    refine r_iload hX dX8_write_46 rfl ?_
    refine r_astN hX dX8_write_48 (hC.1 12 (10, 24) rfl) (by decide) (by omega) ?_
    refine r_aload_n hX dX8_write_49 rfl ?_
    refine r_getR hX dX8_write_50 fl_X8_28 (hC.1 4 (7, 0) rfl) rfl (hC.2.1 4 5 13 rfl) ?_
    refine r_iload hX dX8_write_53 rfl ?_
    refine r_iload hX dX8_write_55 rfl ?_
    refine r_astN hX dX8_write_57 (hC.1 13 (10, 24) rfl) (by decide) (by omega) ?_
    refine r_aload_n hX dX8_write_58 rfl ?_
    refine r_dup hX dX8_write_59 rfl ?_
    refine r_getIV hX dX8_write_60 fl_X8_9 (hC.1 4 (7, 0) rfl) rfl (nI (aW A)) (by rw [up_n (by omega), up_n (by omega), up_n (by omega), up_n (by omega), up_n (by omega)]; exact hW.1) ?_
    refine r_iconst hX (nI 1) dX8_write_63 rfl ?_
    refine r_iaddN hX dX8_write_64 ?_
    refine r_putI hX dX8_write_65 fl_X8_9 (hC.1 4 (7, 0) rfl) rfl rfl rfl rfl ?_
    refine r_iload hX dX8_write_68 rfl ?_
    exact r_ireturn hX hQ dX8_write_70 ⟨Nat.le_of_ble_eq_true rfl, Nat.le_of_ble_eq_true rfl⟩ (PI.mk ⟨by unfold wrI; rw [if_pos (by omega)], by unfold wrA; rw [if_pos (by omega)]; exact rw_addW hW up_s (by rw [up_n (by omega), up_n (by omega), up_n (by omega), up_n (by omega), up_n (by omega), up_s]) (by rw [up_n (by omega), up_n (by omega), up_n (by omega), up_n (by omega), up_s]) (by rw [up_n (by omega), up_n (by omega), up_n (by omega), up_s]) (by rw [up_n (by omega), up_n (by omega), up_s]) (by rw [up_n (by omega), up_s]) (fun c w h1 h2 h3 => by rw [up_n (by omega), up_n (by omega), up_n (by omega), up_n (by omega), up_n (by omega), up_n (by omega)]), Wf.up (Wf.up (Wf.up (Wf.up (Wf.up (Wf.up (Wf.rf b σ) (by omega)) (by omega)) (by omega)) (by omega)) (by omega)) (by omega)⟩)
  · skip
    refine r_ldc hX dX8_write_13 ko_X8_31 ?_
    exact r_ireturn hX hQ dX8_write_15 ⟨Nat.le_of_ble_eq_true rfl, Nat.le_of_ble_eq_true rfl⟩ (PI.mk ⟨by unfold wrI; rw [if_neg (by omega)], by unfold wrA; rw [if_neg (by omega)]; exact hW, Wf.rf b σ⟩)

set_option maxHeartbeats 4000000 in
set_option maxRecDepth 100000 in
theorem c_X8_move {l : Launch} {D : Ds} {L : La}  (b : Nat) (hC : RAt L b) (σ : Me) (x y : Nat) (hx : x < 24) (hy : y < 24) : Ct l yX8_move cX8_move 3 none { frames := 0, cells := 0, slots := 0, locals := 0 } D L σ [.ref (L.1 (b + 4)), .int (nI x), .int (nI y)] (PV L (fun σ2 => σ2 = mvM σ b x y)) := by
  refine Ct.of (by decide) (Nat.le_of_ble_eq_true rfl) ?_
  intro X hl hD hnl hX0 hQ
  have hX : Ok X cX8_move RX8 "move" { frames := 0, cells := 0, slots := 0, locals := 0 } none := hX0
  show At X L σ 0 0 [(0, .ref (L.1 (b + 4))), (1, .int (nI x)), (2, .int (nI y))] 0 []
  refine r_aload_n hX dX8_move_0 rfl ?_
  refine r_getR hX dX8_move_1 fl_X8_15 (hC.1 4 (7, 0) rfl) rfl (hC.2.1 4 1 9 rfl) ?_
  refine r_iload_n hX dX8_move_4 rfl ?_
  refine r_aload_n hX dX8_move_5 rfl ?_
  refine r_getR hX dX8_move_6 fl_X8_15 (hC.1 4 (7, 0) rfl) rfl (hC.2.1 4 1 9 rfl) ?_
  refine r_iload_n hX dX8_move_9 rfl ?_
  refine r_aldN hX dX8_move_10 (hC.1 9 (10, 24) rfl) (by decide) (by omega) (σ (b + 9) x) rfl ?_
  refine r_astN hX dX8_move_11 (hC.1 9 (10, 24) rfl) (by decide) (by omega) ?_
  refine r_aload_n hX dX8_move_12 rfl ?_
  refine r_getR hX dX8_move_13 fl_X8_19 (hC.1 4 (7, 0) rfl) rfl (hC.2.1 4 2 10 rfl) ?_
  refine r_iload_n hX dX8_move_16 rfl ?_
  refine r_aload_n hX dX8_move_17 rfl ?_
  refine r_getR hX dX8_move_18 fl_X8_19 (hC.1 4 (7, 0) rfl) rfl (hC.2.1 4 2 10 rfl) ?_
  refine r_iload_n hX dX8_move_21 rfl ?_
  refine r_aldN hX dX8_move_22 (hC.1 10 (10, 24) rfl) (by decide) (by omega) (σ (b + 10) x) (by rw [up_n (by omega)]) ?_
  refine r_astN hX dX8_move_23 (hC.1 10 (10, 24) rfl) (by decide) (by omega) ?_
  refine r_aload_n hX dX8_move_24 rfl ?_
  refine r_getR hX dX8_move_25 fl_X8_22 (hC.1 4 (7, 0) rfl) rfl (hC.2.1 4 3 11 rfl) ?_
  refine r_iload_n hX dX8_move_28 rfl ?_
  refine r_aload_n hX dX8_move_29 rfl ?_
  refine r_getR hX dX8_move_30 fl_X8_22 (hC.1 4 (7, 0) rfl) rfl (hC.2.1 4 3 11 rfl) ?_
  refine r_iload_n hX dX8_move_33 rfl ?_
  refine r_aldN hX dX8_move_34 (hC.1 11 (10, 24) rfl) (by decide) (by omega) (σ (b + 11) x) (by rw [up_n (by omega), up_n (by omega)]) ?_
  refine r_astN hX dX8_move_35 (hC.1 11 (10, 24) rfl) (by decide) (by omega) ?_
  refine r_aload_n hX dX8_move_36 rfl ?_
  refine r_getR hX dX8_move_37 fl_X8_25 (hC.1 4 (7, 0) rfl) rfl (hC.2.1 4 4 12 rfl) ?_
  refine r_iload_n hX dX8_move_40 rfl ?_
  refine r_aload_n hX dX8_move_41 rfl ?_
  refine r_getR hX dX8_move_42 fl_X8_25 (hC.1 4 (7, 0) rfl) rfl (hC.2.1 4 4 12 rfl) ?_
  refine r_iload_n hX dX8_move_45 rfl ?_
  refine r_aldN hX dX8_move_46 (hC.1 12 (10, 24) rfl) (by decide) (by omega) (σ (b + 12) x) (by rw [up_n (by omega), up_n (by omega), up_n (by omega)]) ?_
  refine r_astN hX dX8_move_47 (hC.1 12 (10, 24) rfl) (by decide) (by omega) ?_
  refine r_aload_n hX dX8_move_48 rfl ?_
  refine r_getR hX dX8_move_49 fl_X8_28 (hC.1 4 (7, 0) rfl) rfl (hC.2.1 4 5 13 rfl) ?_
  refine r_iload_n hX dX8_move_52 rfl ?_
  refine r_aload_n hX dX8_move_53 rfl ?_
  refine r_getR hX dX8_move_54 fl_X8_28 (hC.1 4 (7, 0) rfl) rfl (hC.2.1 4 5 13 rfl) ?_
  refine r_iload_n hX dX8_move_57 rfl ?_
  refine r_aldN hX dX8_move_58 (hC.1 13 (10, 24) rfl) (by decide) (by omega) (σ (b + 13) x) (by rw [up_n (by omega), up_n (by omega), up_n (by omega), up_n (by omega)]) ?_
  refine r_astN hX dX8_move_59 (hC.1 13 (10, 24) rfl) (by decide) (by omega) ?_
  exact r_return hX hQ dX8_move_60 ⟨Nat.le_of_ble_eq_true rfl, Nat.le_of_ble_eq_true rfl⟩ (PV.mk (mvM_eq σ b x y))

set_option maxHeartbeats 4000000 in
set_option maxRecDepth 100000 in
theorem c_X8_remove {l : Launch} {D : Ds} {L : La}  (b : Nat) (hC : RAt L b) (σ : Me) (A : Al) (hW : RW σ b A) (hV : Va A) (w : Nat) (hw : w < aW A) : Ct l yX8_remove cX8_remove 3 none { frames := 1, cells := 0, slots := 0, locals := 22 } D L σ [.ref (L.1 (b + 4)), .int (nI w)] (PV L (fun σ2 => RW σ2 b (delW A w) ∧ Wf b σ σ2)) := by
  refine Ct.of (by decide) (Nat.le_of_ble_eq_true rfl) ?_
  intro X hl hD hnl hX0 hQ
  have hX : Ok X cX8_remove RX8 "remove" { frames := 1, cells := 0, slots := 0, locals := 22 } none := hX0
  have hN2 : 2 < xn X := by rw [hnl]; decide
  have hW24 := hV.2.2.1
  show At X L σ 0 0 [(0, .ref (L.1 (b + 4))), (1, .int (nI w))] 0 []
  refine r_iload_n hX dX8_remove_0 rfl ?_
  refine r_iconst hX (nI 1) dX8_remove_1 rfl ?_
  refine r_iaddN hX dX8_remove_2 ?_
  refine r_istore_n hX [(0, .ref (L.1 (b + 4))), (1, .int (nI w)), (2, .int (nI (w + 1)))] dX8_remove_3 hN2 rfl ?_
  have P1 : ∀ k, k ≤ aW A - (w + 1) → At X L (rmM σ b w k) 0 0 [(0, .ref (L.1 (b + 4))), (1, .int (nI w)), (2, .int (nI (w + 1 + k)))] 4 [] := by
    refine loopUp (aW A - (w + 1)) ?_ ?_
    · skip
      refine r_iload_n hX dX8_remove_4 rfl ?_
      refine r_aload_n hX dX8_remove_5 rfl ?_
      refine r_getIV hX dX8_remove_6 fl_X8_9 (hC.1 4 (7, 0) rfl) rfl (nI (aW A)) ((rmM_o (by omega)).trans hW.1) ?_
      refine r_icmpN_ge hX dX8_remove_9 (by omega) (by omega) (fun c2 => ?_) (fun c2 => absurd c2 (by omega))
      refine r_aload_n hX dX8_remove_26 rfl ?_
      refine r_dup hX dX8_remove_27 rfl ?_
      refine r_getIV hX dX8_remove_28 fl_X8_9 (hC.1 4 (7, 0) rfl) rfl (nI (aW A)) ((rmM_o (by omega)).trans hW.1) ?_
      refine r_iconst hX (nI 1) dX8_remove_31 rfl ?_
      refine r_isubN hX dX8_remove_32 (by omega) ?_
      refine r_putI hX dX8_remove_33 fl_X8_9 (hC.1 4 (7, 0) rfl) rfl rfl rfl rfl ?_
      exact r_return hX hQ dX8_remove_36 ⟨Nat.le_of_ble_eq_true rfl, Nat.le_of_ble_eq_true rfl⟩ (PV.mk ⟨rw_delW hW hw, Wf.up (rmM_wf _ _ _ _) (by omega)⟩)
    · skip
      intro k hk ih3
      refine r_iload_n hX dX8_remove_4 rfl ?_
      refine r_aload_n hX dX8_remove_5 rfl ?_
      refine r_getIV hX dX8_remove_6 fl_X8_9 (hC.1 4 (7, 0) rfl) rfl (nI (aW A)) ((rmM_o (by omega)).trans hW.1) ?_
      refine r_icmpN_ge hX dX8_remove_9 (by omega) (by omega) (fun c4 => absurd c4 (by omega)) (fun c4 => ?_)
      refine r_aload_n hX dX8_remove_12 rfl ?_
      refine r_iload_n hX dX8_remove_13 rfl ?_
      refine r_iload_n hX dX8_remove_14 rfl ?_
      refine r_iconst hX (nI 1) dX8_remove_15 rfl ?_
      refine r_isubN hX dX8_remove_16 (by omega) ?_
      refine r_callVV (As := [.int (nI (w + 1 + k)), .int (nI (w + 1 + k - 1))]) (rest := []) hX (c_X8_move b hC (rmM σ b w k) (w + 1 + k) (w + 1 + k - 1) (by omega) (by omega)) dX8_remove_17 cb_X8_32 (hC.1 4 (7, 0) rfl) rfl rfl ⟨Nat.le_of_ble_eq_true rfl, Nat.le_of_ble_eq_true rfl⟩ ⟨Nat.le_of_ble_eq_true rfl, Nat.le_of_ble_eq_true rfl⟩ (Nat.le_of_ble_eq_true rfl) (fun σ5 h6 => ?_)
      subst h6
      refine r_iincN (n := 1) hX [(0, .ref (L.1 (b + 4))), (1, .int (nI w)), (2, .int (nI (w + 1 + k + 1)))] dX8_remove_20 rfl hN2 rfl ?_
      refine r_goto hX dX8_remove_23 ?_
      have q7 : w + 1 + (k + 1) = w + 1 + k + 1 := (by omega)
      exact At.to ih3 (by rw [q7]) rfl (by rw [← rmM_s, show w + 1 + k - 1 = w + k by omega])
  exact At.to (P1 0 (Nat.zero_le _)) rfl rfl (rmM_0 σ b w)

set_option maxHeartbeats 4000000 in
set_option maxRecDepth 100000 in
theorem c_X8_keepBelow {l : Launch} {D : Ds} {L : La}  (b : Nat) (hC : RAt L b) (σ : Me) (A : Al) (hW : RW σ b A) (hV : Va A) (v : Nat) (hv : v ≤ 10) (hS : ∀ i, i < aW A → σ (b + 8) i = nI (sgN A i)) : Ct l yX8_keepBelow cX8_keepBelow 5 none { frames := 1, cells := 0, slots := 0, locals := 22 } D L σ [.ref (L.1 (b + 4)), .int (nI v), .ref (L.1 (b + 8))] (PV L (fun σ2 => RW σ2 b (dlK A v (aW A)) ∧ Wf b σ σ2)) := by
  refine Ct.of (by decide) (Nat.le_of_ble_eq_true rfl) ?_
  intro X hl hD hnl hX0 hQ
  have hX : Ok X cX8_keepBelow RX8 "keepBelow" { frames := 1, cells := 0, slots := 0, locals := 22 } none := hX0
  have hN3 : 3 < xn X := by rw [hnl]; decide
  have hN4 : 4 < xn X := by rw [hnl]; decide
  have hW24 := hV.2.2.1
  show At X L σ 0 0 [(0, .ref (L.1 (b + 4))), (1, .int (nI v)), (2, .ref (L.1 (b + 8)))] 0 []
  refine r_iconst hX (nI 0) dX8_keepBelow_0 rfl ?_
  refine r_istore_n hX [(0, .ref (L.1 (b + 4))), (1, .int (nI v)), (2, .ref (L.1 (b + 8))), (3, .int (nI 0))] dX8_keepBelow_1 hN3 rfl ?_
  refine r_iconst hX (nI 0) dX8_keepBelow_2 rfl ?_
  refine r_istore hX [(0, .ref (L.1 (b + 4))), (1, .int (nI v)), (2, .ref (L.1 (b + 8))), (3, .int (nI 0)), (4, .int (nI 0))] dX8_keepBelow_3 hN4 rfl ?_
  have P1 : ∀ i, i ≤ aW A → ∀ (σk : Me) (hI : KI σ σk b A v i), At X L σk 0 0 [(0, .ref (L.1 (b + 4))), (1, .int (nI v)), (2, .ref (L.1 (b + 8))), (3, .int (nI ((kpL A v i).length))), (4, .int (nI i))] 5 [] := by
    refine loopUp (aW A) ?_ ?_
    · skip
      intro σk hI
      refine r_iload hX dX8_keepBelow_5 rfl ?_
      refine r_aload_n hX dX8_keepBelow_7 rfl ?_
      refine r_getIV hX dX8_keepBelow_8 fl_X8_9 (hC.1 4 (7, 0) rfl) rfl (nI (aW A)) (hI.2.1.trans hW.1) ?_
      refine r_icmpN_ge hX dX8_keepBelow_11 (by omega) (by omega) (fun c2 => ?_) (fun c2 => absurd c2 (by omega))
      refine r_aload_n hX dX8_keepBelow_38 rfl ?_
      refine r_iload_n hX dX8_keepBelow_39 rfl ?_
      refine r_putI hX dX8_keepBelow_40 fl_X8_9 (hC.1 4 (7, 0) rfl) rfl rfl rfl rfl ?_
      exact r_return hX hQ dX8_keepBelow_43 ⟨Nat.le_of_ble_eq_true rfl, Nat.le_of_ble_eq_true rfl⟩ (PV.mk ⟨(KI.fin hW hI).1, (KI.fin hW hI).2.1⟩)
    · skip
      intro i hk ih3 σk hI
      have hkl := kpL_le A v i
      have hsg := sgN_le A i
      refine r_iload hX dX8_keepBelow_5 rfl ?_
      refine r_aload_n hX dX8_keepBelow_7 rfl ?_
      refine r_getIV hX dX8_keepBelow_8 fl_X8_9 (hC.1 4 (7, 0) rfl) rfl (nI (aW A)) (hI.2.1.trans hW.1) ?_
      refine r_icmpN_ge hX dX8_keepBelow_11 (by omega) (by omega) (fun c4 => absurd c4 (by omega)) (fun c4 => ?_)
      refine r_aload_n hX dX8_keepBelow_14 rfl ?_
      refine r_iload hX dX8_keepBelow_15 rfl ?_
      refine r_aldN hX dX8_keepBelow_17 (hC.1 8 (10, 24) rfl) (by decide) (by omega) (nI (sgN A i)) ((hI.1 (b + 8) _ (by omega) (by omega)).trans (hS i (by omega))) ?_
      refine r_iload_n hX dX8_keepBelow_18 rfl ?_
      refine r_icmpN_ge hX dX8_keepBelow_19 (by omega) (by omega) (fun c5 => ?_) (fun c5 => ?_)
      · skip
        refine r_iincN (n := 1) hX [(0, .ref (L.1 (b + 4))), (1, .int (nI v)), (2, .ref (L.1 (b + 8))), (3, .int (nI ((kpL A v i).length))), (4, .int (nI (i + 1)))] dX8_keepBelow_32 rfl hN4 rfl ?_
        refine r_goto hX dX8_keepBelow_35 ?_
        have q6 : (kpL A v (i + 1)).length = (kpL A v i).length := (by rw [kpL_n (by omega)])
        exact At.to (ih3 σk (hI.no (by omega))) (by rw [q6]) rfl rfl
      · skip
        refine r_aload_n hX dX8_keepBelow_22 rfl ?_
        refine r_iload hX dX8_keepBelow_23 rfl ?_
        refine r_iload_n hX dX8_keepBelow_25 rfl ?_
        refine r_callVV (As := [.int (nI i), .int (nI ((kpL A v i).length))]) (rest := []) hX (c_X8_move b hC σk i ((kpL A v i).length) (by omega) (by omega)) dX8_keepBelow_26 cb_X8_32 (hC.1 4 (7, 0) rfl) rfl rfl ⟨Nat.le_of_ble_eq_true rfl, Nat.le_of_ble_eq_true rfl⟩ ⟨Nat.le_of_ble_eq_true rfl, Nat.le_of_ble_eq_true rfl⟩ (Nat.le_of_ble_eq_true rfl) (fun σ7 h8 => ?_)
        subst h8
        refine r_iincN (n := 1) hX [(0, .ref (L.1 (b + 4))), (1, .int (nI v)), (2, .ref (L.1 (b + 8))), (3, .int (nI ((kpL A v i).length + 1))), (4, .int (nI i))] dX8_keepBelow_29 rfl hN3 rfl ?_
        refine r_iincN (n := 1) hX [(0, .ref (L.1 (b + 4))), (1, .int (nI v)), (2, .ref (L.1 (b + 8))), (3, .int (nI ((kpL A v i).length + 1))), (4, .int (nI (i + 1)))] dX8_keepBelow_32 rfl hN4 rfl ?_
        refine r_goto hX dX8_keepBelow_35 ?_
        have q9 : (kpL A v (i + 1)).length = (kpL A v i).length + 1 := (kpL_y c5)
        exact At.to (ih3 _ (hI.yes c5)) (by rw [q9]) rfl rfl
  exact At.to (P1 0 (Nat.zero_le _) σ (KI.rf σ b A v)) rfl rfl rfl
