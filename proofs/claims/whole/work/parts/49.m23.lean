set_option maxHeartbeats 4000000 in
set_option maxRecDepth 100000 in
theorem c_X10_notHeld {l : Launch} {D : Ds} {L : La} (hM : MAt L) (σ : Me) (Q : Ls) (hS : RSl σ Q) (s : Int32) (t : Nat) (ht : t ≤ 3) : Ct l yX10_notHeld cX10_notHeld 3 (some .int) { frames := 2, cells := 0, slots := 0, locals := 42 } D L σ [.ref (L.1 0), .int s, .int (nI t)] (PF L σ (ntH Q s t)) := by
  refine Ct.of (by decide) (Nat.le_of_ble_eq_true rfl) ?_
  intro X hl hD hnl hX0 hQ
  have hX : Ok X cX10_notHeld RX10 "notHeld" { frames := 2, cells := 0, slots := 0, locals := 42 } (some .int) := hX0
  show At X L σ 0 0 [(0, .ref (L.1 0)), (1, .int s), (2, .int (nI t))] 0 []
  refine r_iload_n hX dX10_notHeld_0 rfl ?_
  refine r_callSF (As := [.int s]) (rest := []) hX (c_X10_isSlot σ s) dX10_notHeld_1 cb_X10_354 rfl rfl ⟨Nat.le_of_ble_eq_true rfl, Nat.le_of_ble_eq_true rfl⟩ ⟨Nat.le_of_ble_eq_true rfl, Nat.le_of_ble_eq_true rfl⟩ (Nat.le_of_ble_eq_true rfl) ?_
  refine r_ifB_ne hX dX10_notHeld_4 (fun c1 => ?_) (fun c1 => ?_)
  · skip
    obtain ⟨q, hql, hq, rfl⟩ := inB_nat c1 (by decide) (by decide)
    have hq3 := (hS q (by omega)).2.1
    refine r_aload_n hX dX10_notHeld_12 rfl ?_
    refine r_getR hX dX10_notHeld_13 fl_X10_56 (hM.1 0 (9, 0) rfl) rfl (hM.2 39 16 rfl) ?_
    refine r_iload_n hX dX10_notHeld_16 rfl ?_
    refine r_aldN hX dX10_notHeld_17 (hM.1 16 (10, 5) rfl) (by decide) (by omega) (nI (Q.1 q)) (hS q (by omega)).1 ?_
    refine r_ifN_ne hX dX10_notHeld_18 (by omega) (fun c2 => ?_) (fun c2 => ?_)
    · skip
      refine r_aload_n hX dX10_notHeld_27 rfl ?_
      refine r_getR hX dX10_notHeld_28 fl_X10_56 (hM.1 0 (9, 0) rfl) rfl (hM.2 39 16 rfl) ?_
      refine r_iload_n hX dX10_notHeld_31 rfl ?_
      refine r_aldN hX dX10_notHeld_32 (hM.1 16 (10, 5) rfl) (by decide) (by omega) (nI (Q.1 q)) (hS q (by omega)).1 ?_
      refine r_iload_n hX dX10_notHeld_33 rfl ?_
      refine r_icmpN_eq hX dX10_notHeld_34 (by omega) (by omega) (fun c3 => ?_) (fun c3 => ?_)
      · skip
        refine r_iconst hX (nI 0) dX10_notHeld_42 rfl ?_
        exact r_ireturn hX hQ dX10_notHeld_43 ⟨Nat.le_of_ble_eq_true rfl, Nat.le_of_ble_eq_true rfl⟩ (PF.mk (by rw [ntH, if_pos c1, nI_clamp (n := q) (by omega), if_neg c2, if_pos c3]))
      · skip
        refine r_ldc hX dX10_notHeld_37 ko_X10_141 ?_
        refine r_goto hX dX10_notHeld_39 ?_
        exact r_ireturn hX hQ dX10_notHeld_43 ⟨Nat.le_of_ble_eq_true rfl, Nat.le_of_ble_eq_true rfl⟩ (PF.mk (by rw [ntH, if_pos c1, nI_clamp (n := q) (by omega), if_neg c2, if_neg c3]))
    · skip
      refine r_ldcw hX dX10_notHeld_21 ko_X10_347 ?_
      refine r_goto hX dX10_notHeld_24 ?_
      exact r_ireturn hX hQ dX10_notHeld_43 ⟨Nat.le_of_ble_eq_true rfl, Nat.le_of_ble_eq_true rfl⟩ (PF.mk (by rw [ntH, if_pos c1, nI_clamp (n := q) (by omega), if_pos c2]))
  · skip
    refine r_ldc hX dX10_notHeld_7 ko_X10_72 ?_
    refine r_goto hX dX10_notHeld_9 ?_
    exact r_ireturn hX hQ dX10_notHeld_43 ⟨Nat.le_of_ble_eq_true rfl, Nat.le_of_ble_eq_true rfl⟩ (PF.mk (by rw [ntH, if_neg (fun e => by rw [c1] at e; cases e)]))
