set_option maxHeartbeats 4000000 in
set_option maxRecDepth 100000 in
theorem c_X9_checkN {l : Launch} {D : Ds} {L : La}  (hA : CAt L) (hWl : Wl L) (hTr : TrC L) (σ : Me) (Q : Wt) (hQw : RWc σ Q) (hI : L.2.2 100 8 = none) (n h : Int32) : Ct l yX9_check cX9_check 7 (some .int) { frames := 2, cells := 0, slots := 0, locals := 42 } D L σ [.ref (L.1 100), .int n, .int h] (PNI (fun r L2 σ2 => r = oCheck Q none n h ∧ ChP L σ L2 σ2)) := by
  refine Ct.of (by decide) (Nat.le_of_ble_eq_true rfl) ?_
  intro X hl hD hnl hX0 hQ
  have hX : Ok X cX9_check RX9 "check" { frames := 2, cells := 0, slots := 0, locals := 42 } (some .int) := hX0
  have hN3 : 3 < xn X := by rw [hnl]; decide
  have hC := hA.2.2
  show At X L σ 0 0 [(0, .ref (L.1 100)), (1, .int n), (2, .int h)] 0 []
  refine r_aload_n hX dX9_check_0 rfl ?_
  refine r_getIV hX dX9_check_1 fl_X9_55 (hA.1 100 (8, 0) rfl) rfl (nI Q.1) hQw.1 ?_
  refine r_istore_n hX [(0, .ref (L.1 100)), (1, .int n), (2, .int h), (3, .int (nI Q.1))] dX9_check_4 hN3 rfl ?_
  refine r_aload_n hX dX9_check_5 rfl ?_
  refine r_iconst hX (nI 0) dX9_check_6 rfl ?_
  refine r_putI hX dX9_check_7 fl_X9_55 (hA.1 100 (8, 0) rfl) rfl rfl rfl rfl ?_
  refine r_iload_n hX dX9_check_10 rfl ?_
  refine r_iconst hX (nI 1) dX9_check_11 rfl ?_
  refine r_bipush hX (nI 30) dX9_check_12 rfl ?_
  refine r_callSF (As := [.int n, .int (nI 1), .int (nI 30)]) (rest := []) hX (c_X9_within (up σ 100 7 (nI 0)) n (nI 1) (nI 30)) dX9_check_14 cb_X9_67 rfl rfl ⟨Nat.le_of_ble_eq_true rfl, Nat.le_of_ble_eq_true rfl⟩ ⟨Nat.le_of_ble_eq_true rfl, Nat.le_of_ble_eq_true rfl⟩ (Nat.le_of_ble_eq_true rfl) ?_
  refine r_ifB_eq hX dX9_check_17 (fun c1 => ?_) (fun c1 => ?_)
  · skip
    refine r_ldc hX dX9_check_27 ko_X9_75 ?_
    exact r_ireturn hX hQ dX9_check_29 ⟨Nat.le_of_ble_eq_true rfl, Nat.le_of_ble_eq_true rfl⟩ (PNI.mk ⟨(ck_bad (fun e => by have e := e.1; rw [c1] at e; cases e)).symm, ChP.no hA hWl hTr⟩)
  · skip
    refine r_iload_n hX dX9_check_20 rfl ?_
    refine r_callSF (As := [.int h]) (rest := []) hX (c_X9_isHour (up σ 100 7 (nI 0)) h) dX9_check_21 cb_X9_101 rfl rfl ⟨Nat.le_of_ble_eq_true rfl, Nat.le_of_ble_eq_true rfl⟩ ⟨Nat.le_of_ble_eq_true rfl, Nat.le_of_ble_eq_true rfl⟩ (Nat.le_of_ble_eq_true rfl) ?_
    refine r_ifB_ne hX dX9_check_24 (fun c2 => ?_) (fun c2 => ?_)
    · skip
      refine r_aload_n hX dX9_check_30 rfl ?_
      refine r_getN hX dX9_check_31 fl_X9_59 (hA.1 100 (8, 0) rfl) rfl hI ?_
      refine r_ifnullN hX dX9_check_34 ?_
      refine r_ldc hX dX9_check_47 ko_X9_236 ?_
      exact r_ireturn hX hQ dX9_check_49 ⟨Nat.le_of_ble_eq_true rfl, Nat.le_of_ble_eq_true rfl⟩ (PNI.mk ⟨(ck_none ⟨c1, c2⟩).symm, ChP.no hA hWl hTr⟩)
    · skip
      refine r_ldc hX dX9_check_27 ko_X9_75 ?_
      exact r_ireturn hX hQ dX9_check_29 ⟨Nat.le_of_ble_eq_true rfl, Nat.le_of_ble_eq_true rfl⟩ (PNI.mk ⟨(ck_bad (fun e => by have e := e.2; rw [c2] at e; cases e)).symm, ChP.no hA hWl hTr⟩)
