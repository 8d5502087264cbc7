set_option maxHeartbeats 4000000 in
set_option maxRecDepth 100000 in
theorem c_X10_ask {l : Launch} {D : Ds} {L : La} (hM : MAt L) (σ : Me) (Q : Ls) (hS : RSl σ Q) (s k : Int32) : Ct l yX10_ask cX10_ask 4 (some .int) { frames := 3, cells := 0, slots := 0, locals := 64 } D L σ [.ref (L.1 0), .int s, .int k] (PF L σ (oAsk Q s k)) := by
  refine Ct.of (by decide) (Nat.le_of_ble_eq_true rfl) ?_
  intro X hl hD hnl hX0 hQ
  have hX : Ok X cX10_ask RX10 "ask" { frames := 3, cells := 0, slots := 0, locals := 64 } (some .int) := hX0
  have hN3 : 3 < xn X := by rw [hnl]; decide
  show At X L σ 0 0 [(0, .ref (L.1 0)), (1, .int s), (2, .int k)] 0 []
  refine r_iload_n hX dX10_ask_0 rfl ?_
  refine r_iconst hX (nI 0) dX10_ask_1 rfl ?_
  refine r_iconst hX (nI 5) dX10_ask_2 rfl ?_
  refine r_callSF (As := [.int k, .int (nI 0), .int (nI 5)]) (rest := []) hX (c_X10_in σ k (nI 0) (nI 5)) dX10_ask_3 cb_X10_68 rfl rfl ⟨Nat.le_of_ble_eq_true rfl, Nat.le_of_ble_eq_true rfl⟩ ⟨Nat.le_of_ble_eq_true rfl, Nat.le_of_ble_eq_true rfl⟩ (Nat.le_of_ble_eq_true rfl) ?_
  refine r_ifB_eq hX dX10_ask_6 (fun c1 => ?_) (fun c1 => ?_)
  · skip
    refine r_ldc hX dX10_ask_18 ko_X10_72 ?_
    refine r_istore_n hX [(0, .ref (L.1 0)), (1, .int s), (2, .int k), (3, .int (-1000000001))] dX10_ask_20 hN3 rfl ?_
    refine r_iload_n hX dX10_ask_21 rfl ?_
    refine r_if_eq hX dX10_ask_22 (fun c2 => absurd c2 (by decide)) (fun c2 => ?_)
    refine r_iload_n hX dX10_ask_25 rfl ?_
    exact r_ireturn hX hQ dX10_ask_26 ⟨Nat.le_of_ble_eq_true rfl, Nat.le_of_ble_eq_true rfl⟩ (PF.mk (by rw [oAsk, if_neg (fun e => by rw [c1] at e; cases e)]))
  · skip
    obtain ⟨e, hel, he, rfl⟩ := inB_nat c1 (by decide) (by decide)
    refine r_aload_n hX dX10_ask_9 rfl ?_
    refine r_iload_n hX dX10_ask_10 rfl ?_
    refine r_iconst hX (nI 1) dX10_ask_11 rfl ?_
    refine r_callVF (As := [.int s, .int (nI 1)]) (rest := []) hX (c_X10_notHeld hM σ Q hS s 1 (by decide)) dX10_ask_12 cb_X10_357 (hM.1 0 (9, 0) rfl) rfl rfl ⟨Nat.le_of_ble_eq_true rfl, Nat.le_of_ble_eq_true rfl⟩ ⟨Nat.le_of_ble_eq_true rfl, Nat.le_of_ble_eq_true rfl⟩ (Nat.le_of_ble_eq_true rfl) ?_
    refine r_goto hX dX10_ask_15 ?_
    refine r_istore_n hX [(0, .ref (L.1 0)), (1, .int s), (2, .int (nI e)), (3, .int (ntH Q s 1))] dX10_ask_20 hN3 rfl ?_
    refine r_iload_n hX dX10_ask_21 rfl ?_
    refine r_if_eq hX dX10_ask_22 (fun c3 => ?_) (fun c3 => ?_)
    · skip
      have hz0 := c3
      obtain ⟨q, hq, rfl, hqt⟩ := ntH_0 (show ntH Q s 1 = nI 0 from c3.trans (by decide))
      obtain ⟨a, ha5, ha, hb1, hb5⟩ := (hS q (by omega)).2.2.2.2.2.1 hqt
      refine r_aload_n hX dX10_ask_27 rfl ?_
      refine r_getR hX dX10_ask_28 fl_X10_59 (hM.1 0 (9, 0) rfl) rfl (hM.2 40 17 rfl) ?_
      refine r_iload_n hX dX10_ask_31 rfl ?_
      refine r_aldN hX dX10_ask_32 (hM.1 17 (10, 5) rfl) (by decide) (by omega) (nI a) ((hS q (by omega)).2.2.1.trans ha) ?_
      refine r_iload_n hX dX10_ask_33 rfl ?_
      refine r_callSF (As := [.int (nI a), .int (nI e)]) (rest := []) hX (c_X10_isUnder σ a e (by omega) (by omega)) dX10_ask_34 cb_X10_106 rfl rfl ⟨Nat.le_of_ble_eq_true rfl, Nat.le_of_ble_eq_true rfl⟩ ⟨Nat.le_of_ble_eq_true rfl, Nat.le_of_ble_eq_true rfl⟩ (Nat.le_of_ble_eq_true rfl) ?_
      refine r_ifB_eq hX dX10_ask_37 (fun c4 => ?_) (fun c4 => ?_)
      · skip
        refine r_ldc hX dX10_ask_58 ko_X10_141 ?_
        exact r_ireturn hX hQ dX10_ask_60 ⟨Nat.le_of_ble_eq_true rfl, Nat.le_of_ble_eq_true rfl⟩ (PF.mk (by rw [oAsk, if_pos c1, if_pos (hz0.trans (by decide)), nI_clamp (n := q) (by omega), ha, nI_clamp (n := a) (by omega), nI_clamp (n := e) (by omega), if_neg (by rw [c4]; decide)]))
      · skip
        refine r_aload_n hX dX10_ask_40 rfl ?_
        refine r_getR hX dX10_ask_41 fl_X10_59 (hM.1 0 (9, 0) rfl) rfl (hM.2 40 17 rfl) ?_
        refine r_iload_n hX dX10_ask_44 rfl ?_
        refine r_aldN hX dX10_ask_45 (hM.1 17 (10, 5) rfl) (by decide) (by omega) (nI a) ((hS q (by omega)).2.2.1.trans ha) ?_
        refine r_aload_n hX dX10_ask_46 rfl ?_
        refine r_getR hX dX10_ask_47 fl_X10_62 (hM.1 0 (9, 0) rfl) rfl (hM.2 41 18 rfl) ?_
        refine r_iload_n hX dX10_ask_50 rfl ?_
        refine r_aldN hX dX10_ask_51 (hM.1 18 (10, 5) rfl) (by decide) (by omega) (nI (Q.2.2.1 q)) (hS q (by omega)).2.2.2.1 ?_
        refine r_callSF (As := [.int (nI a), .int (nI (Q.2.2.1 q))]) (rest := []) hX (c_X10_says σ a (Q.2.2.1 q) (by omega) (by omega) (by omega)) dX10_ask_52 cb_X10_132 rfl rfl ⟨Nat.le_of_ble_eq_true rfl, Nat.le_of_ble_eq_true rfl⟩ ⟨Nat.le_of_ble_eq_true rfl, Nat.le_of_ble_eq_true rfl⟩ (Nat.le_of_ble_eq_true rfl) ?_
        refine r_goto hX dX10_ask_55 ?_
        exact r_ireturn hX hQ dX10_ask_60 ⟨Nat.le_of_ble_eq_true rfl, Nat.le_of_ble_eq_true rfl⟩ (PF.mk (by rw [oAsk, if_pos c1, if_pos (hz0.trans (by decide)), nI_clamp (n := q) (by omega), ha, nI_clamp (n := a) (by omega), nI_clamp (n := e) (by omega), if_pos c4]))
    · skip
      refine r_iload_n hX dX10_ask_25 rfl ?_
      exact r_ireturn hX hQ dX10_ask_26 ⟨Nat.le_of_ble_eq_true rfl, Nat.le_of_ble_eq_true rfl⟩ (PF.mk (by rw [oAsk, if_pos c1, if_neg (fun e => c3 (e.trans (by decide)))]))
