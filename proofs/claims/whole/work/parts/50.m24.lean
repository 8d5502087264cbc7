set_option maxHeartbeats 4000000 in
set_option maxRecDepth 100000 in
theorem c_X10_rest {l : Launch} {D : Ds} {L : La} (hM : MAt L) (σ : Me) (Q : Ls) (hS : RSl σ Q) (s n : Int32) : Ct l yX10_rest cX10_rest 4 (some .int) { frames := 3, cells := 0, slots := 0, locals := 64 } D L σ [.ref (L.1 0), .int s, .int n] (PF L σ (oRest Q s n)) := by
  refine Ct.of (by decide) (Nat.le_of_ble_eq_true rfl) ?_
  intro X hl hD hnl hX0 hQ
  have hX : Ok X cX10_rest RX10 "rest" { frames := 3, cells := 0, slots := 0, locals := 64 } (some .int) := hX0
  have hN3 : 3 < xn X := by rw [hnl]; decide
  show At X L σ 0 0 [(0, .ref (L.1 0)), (1, .int s), (2, .int n)] 0 []
  refine r_aload_n hX dX10_rest_0 rfl ?_
  refine r_iload_n hX dX10_rest_1 rfl ?_
  refine r_iconst hX (nI 3) dX10_rest_2 rfl ?_
  refine r_callVF (As := [.int s, .int (nI 3)]) (rest := []) hX (c_X10_notHeld hM σ Q hS s 3 (by decide)) dX10_rest_3 cb_X10_357 (hM.1 0 (9, 0) rfl) rfl rfl ⟨Nat.le_of_ble_eq_true rfl, Nat.le_of_ble_eq_true rfl⟩ ⟨Nat.le_of_ble_eq_true rfl, Nat.le_of_ble_eq_true rfl⟩ (Nat.le_of_ble_eq_true rfl) ?_
  refine r_istore_n hX [(0, .ref (L.1 0)), (1, .int s), (2, .int n), (3, .int (ntH Q s 3))] dX10_rest_6 hN3 rfl ?_
  refine r_iload_n hX dX10_rest_7 rfl ?_
  refine r_if_eq hX dX10_rest_8 (fun c1 => ?_) (fun c1 => ?_)
  · skip
    have hz0 := c1
    obtain ⟨q, hq, rfl, hqt⟩ := ntH_0 (show ntH Q s 3 = nI 0 from c1.trans (by decide))
    refine r_iload_n hX dX10_rest_13 rfl ?_
    refine r_if_ne hX dX10_rest_14 (fun c2 => ?_) (fun c2 => ?_)
    · skip
      refine r_iload_n hX dX10_rest_22 rfl ?_
      refine r_iconst hX (-1) dX10_rest_23 rfl ?_
      refine r_icmp_ne hX dX10_rest_24 (fun c3 => ?_) (fun c3 => ?_)
      · skip
        refine r_aload_n hX dX10_rest_31 rfl ?_
        refine r_getR hX dX10_rest_32 fl_X10_59 (hM.1 0 (9, 0) rfl) rfl (hM.2 40 17 rfl) ?_
        refine r_iload_n hX dX10_rest_35 rfl ?_
        refine r_aldN hX dX10_rest_36 (hM.1 17 (10, 5) rfl) (by decide) (by omega) (Q.2.1 q) (hS q (by omega)).2.2.1 ?_
        refine r_iload_n hX dX10_rest_37 rfl ?_
        refine r_irem hX dX10_rest_38 (by assumption) ?_
        exact r_ireturn hX hQ dX10_rest_39 ⟨Nat.le_of_ble_eq_true rfl, Nat.le_of_ble_eq_true rfl⟩ (PF.mk (by rw [oRest, if_pos (hz0.trans (by decide)), if_neg (fun e => c2 (e.trans (by decide))), if_neg c3, nI_clamp (n := q) (by omega)]))
      · skip
        refine r_iconst hX (nI 0) dX10_rest_27 rfl ?_
        refine r_goto hX dX10_rest_28 ?_
        exact r_ireturn hX hQ dX10_rest_39 ⟨Nat.le_of_ble_eq_true rfl, Nat.le_of_ble_eq_true rfl⟩ (PF.mk (by rw [oRest, if_pos (hz0.trans (by decide)), if_neg (fun e => c2 (e.trans (by decide))), if_pos c3]))
    · skip
      refine r_ldc hX dX10_rest_17 ko_X10_229 ?_
      refine r_goto hX dX10_rest_19 ?_
      exact r_ireturn hX hQ dX10_rest_39 ⟨Nat.le_of_ble_eq_true rfl, Nat.le_of_ble_eq_true rfl⟩ (PF.mk (by rw [oRest, if_pos (hz0.trans (by decide)), if_pos (c2.trans (by decide))]))
  · skip
    refine r_iload_n hX dX10_rest_11 rfl ?_
    exact r_ireturn hX hQ dX10_rest_12 ⟨Nat.le_of_ble_eq_true rfl, Nat.le_of_ble_eq_true rfl⟩ (PF.mk (by rw [oRest, if_neg (fun e => c1 (e.trans (by decide)))]))

set_option maxHeartbeats 4000000 in
set_option maxRecDepth 100000 in
theorem c_X10_item {l : Launch} {D : Ds} {L : La} (hM : MAt L) (σ : Me) (Q : Ls) (hS : RSl σ Q) (s p : Int32) : Ct l yX10_item cX10_item 5 (some .int) { frames := 3, cells := 0, slots := 0, locals := 64 } D L σ [.ref (L.1 0), .int s, .int p] (PF L σ (oItem Q s p)) := by
  refine Ct.of (by decide) (Nat.le_of_ble_eq_true rfl) ?_
  intro X hl hD hnl hX0 hQ
  have hX : Ok X cX10_item RX10 "item" { frames := 3, cells := 0, slots := 0, locals := 64 } (some .int) := hX0
  have hN3 : 3 < xn X := by rw [hnl]; decide
  have hN4 : 4 < xn X := by rw [hnl]; decide
  show At X L σ 0 0 [(0, .ref (L.1 0)), (1, .int s), (2, .int p)] 0 []
  refine r_aload_n hX dX10_item_0 rfl ?_
  refine r_iload_n hX dX10_item_1 rfl ?_
  refine r_iconst hX (nI 2) dX10_item_2 rfl ?_
  refine r_callVF (As := [.int s, .int (nI 2)]) (rest := []) hX (c_X10_notHeld hM σ Q hS s 2 (by decide)) dX10_item_3 cb_X10_357 (hM.1 0 (9, 0) rfl) rfl rfl ⟨Nat.le_of_ble_eq_true rfl, Nat.le_of_ble_eq_true rfl⟩ ⟨Nat.le_of_ble_eq_true rfl, Nat.le_of_ble_eq_true rfl⟩ (Nat.le_of_ble_eq_true rfl) ?_
  refine r_istore_n hX [(0, .ref (L.1 0)), (1, .int s), (2, .int p), (3, .int (ntH Q s 2))] dX10_item_6 hN3 rfl ?_
  refine r_iload_n hX dX10_item_7 rfl ?_
  refine r_if_eq hX dX10_item_8 (fun c1 => ?_) (fun c1 => ?_)
  · skip
    have hz0 := c1
    obtain ⟨q, hq, rfl, hqt⟩ := ntH_0 (show ntH Q s 2 = nI 0 from c1.trans (by decide))
    obtain ⟨a, ha24, ha⟩ := (hS q (by omega)).2.2.2.2.2.2 hqt
    refine r_iload_n hX dX10_item_13 rfl ?_
    refine r_iconst hX (nI 0) dX10_item_14 rfl ?_
    refine r_aload_n hX dX10_item_15 rfl ?_
    refine r_getR hX dX10_item_16 fl_X10_59 (hM.1 0 (9, 0) rfl) rfl (hM.2 40 17 rfl) ?_
    refine r_iload_n hX dX10_item_19 rfl ?_
    refine r_aldN hX dX10_item_20 (hM.1 17 (10, 5) rfl) (by decide) (by omega) (nI a) ((hS q (by omega)).2.2.1.trans ha) ?_
    refine r_iconst hX (nI 1) dX10_item_21 rfl ?_
    refine r_isub hX dX10_item_22 ?_
    refine r_callSF (As := [.int p, .int (nI 0), .int ((nI a) - (nI 1))]) (rest := []) hX (c_X10_in σ p (nI 0) ((nI a) - (nI 1))) dX10_item_23 cb_X10_68 rfl rfl ⟨Nat.le_of_ble_eq_true rfl, Nat.le_of_ble_eq_true rfl⟩ ⟨Nat.le_of_ble_eq_true rfl, Nat.le_of_ble_eq_true rfl⟩ (Nat.le_of_ble_eq_true rfl) ?_
    refine r_ifB_ne hX dX10_item_26 (fun c2 => ?_) (fun c2 => ?_)
    · skip
      obtain ⟨u, hu, rfl⟩ := isB_nat (n := a) c2 (by omega)
      refine r_aload_n hX dX10_item_33 rfl ?_
      refine r_getR hX dX10_item_34 fl_X10_65 (hM.1 0 (9, 0) rfl) rfl (hM.2 42 19 rfl) ?_
      refine r_bipush hX (nI 24) dX10_item_37 rfl ?_
      refine r_iload_n hX dX10_item_39 rfl ?_
      refine r_imulN hX dX10_item_40 ?_
      refine r_iload_n hX dX10_item_41 rfl ?_
      refine r_iaddN hX dX10_item_42 ?_
      refine r_aldN hX dX10_item_43 (hM.1 19 (10, 120) rfl) (by decide) (by omega) (Q.2.2.2 q u) ((hS q (by omega)).2.2.2.2.1 u (by omega)) ?_
      refine r_istore hX [(0, .ref (L.1 0)), (1, .int (nI q)), (2, .int (nI u)), (3, .int (ntH Q (nI q) 2)), (4, .int (Q.2.2.2 q u))] dX10_item_44 hN4 rfl ?_
      refine r_iload hX dX10_item_46 rfl ?_
      refine r_ldc hX dX10_item_48 ko_X10_92 ?_
      refine r_icmp_ne hX dX10_item_50 (fun c3 => ?_) (fun c3 => ?_)
      · skip
        refine r_iload hX dX10_item_58 rfl ?_
        exact r_ireturn hX hQ dX10_item_60 ⟨Nat.le_of_ble_eq_true rfl, Nat.le_of_ble_eq_true rfl⟩ (PF.mk (by rw [oItem, if_pos (hz0.trans (by decide)), nI_clamp (n := q) (by omega), ha, nI_clamp (n := a) (by omega), if_pos (show isB (nI u) a = true from c2), nI_clamp (n := u) (by omega), if_neg c3]))
      · skip
        refine r_ldc hX dX10_item_53 ko_X10_141 ?_
        refine r_goto hX dX10_item_55 ?_
        exact r_ireturn hX hQ dX10_item_60 ⟨Nat.le_of_ble_eq_true rfl, Nat.le_of_ble_eq_true rfl⟩ (PF.mk (by rw [oItem, if_pos (hz0.trans (by decide)), nI_clamp (n := q) (by omega), ha, nI_clamp (n := a) (by omega), if_pos (show isB (nI u) a = true from c2), nI_clamp (n := u) (by omega), if_pos c3]))
    · skip
      refine r_ldcw hX dX10_item_29 ko_X10_348 ?_
      exact r_ireturn hX hQ dX10_item_32 ⟨Nat.le_of_ble_eq_true rfl, Nat.le_of_ble_eq_true rfl⟩ (PF.mk (by rw [oItem, if_pos (hz0.trans (by decide)), nI_clamp (n := q) (by omega), ha, nI_clamp (n := a) (by omega), if_neg (fun e => by unfold isB at e; rw [c2] at e; cases e)]))
  · skip
    refine r_iload_n hX dX10_item_11 rfl ?_
    exact r_ireturn hX hQ dX10_item_12 ⟨Nat.le_of_ble_eq_true rfl, Nat.le_of_ble_eq_true rfl⟩ (PF.mk (by rw [oItem, if_neg (fun e => c1 (e.trans (by decide)))]))
