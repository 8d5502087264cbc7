set_option maxHeartbeats 4000000 in
set_option maxRecDepth 100000 in
theorem c_X9_back1 {l : Launch} {D : Ds} {L : La}  (hA : CAt L) (hWl : Wl L) (hI : L.2.2 100 8 = some 220) (hCi : RAt L 220) (σ : Me) (B : Al) (h0 : R0 σ 220 B) (hW : RW σ 220 B) (hTx : RX' L σ 220 B) (hV : Va B) (hLT : LT L 220) : Ct l yX9_back cX9_back 1 (some .int) { frames := 3, cells := 0, slots := 0, locals := 74 } D L σ [.ref (L.1 100)] (PNI (fun r L2 σ2 => r = nI (aW B) ∧ BkP L σ B L2 σ2)) := by
  refine Ct.of (by decide) (Nat.le_of_ble_eq_true rfl) ?_
  intro X hl hD hnl hX0 hQ
  have hX : Ok X cX9_back RX9 "back" { frames := 3, cells := 0, slots := 0, locals := 74 } (some .int) := hX0
  have hC := hA.2.2
  show At X L σ 0 0 [(0, .ref (L.1 100))] 0 []
  refine r_aload_n hX dX9_back_0 rfl ?_
  refine r_getR hX dX9_back_1 fl_X9_59 (hA.1 100 (8, 0) rfl) rfl hI ?_
  refine r_ifnonnull hX dX9_back_4 ?_
  refine r_aload_n hX dX9_back_10 rfl ?_
  refine r_getR hX dX9_back_11 fl_X9_10 (hA.1 100 (8, 0) rfl) rfl (hA.2.1 100 0 200 rfl) ?_
  refine r_aload_n hX dX9_back_14 rfl ?_
  refine r_getR hX dX9_back_15 fl_X9_59 (hA.1 100 (8, 0) rfl) rfl hI ?_
  refine r_callVT (As := [.ref (L.1 (220 + 0))]) (rest := []) hX (c_X3_become 200 220 hC hCi (by decide) σ B h0 hW hTx hV hLT) dX9_back_18 cb_X9_343 (hC.1 0 (2, 0) rfl) rfl rfl ⟨Nat.le_of_ble_eq_true rfl, Nat.le_of_ble_eq_true rfl⟩ ⟨Nat.le_of_ble_eq_true rfl, Nat.le_of_ble_eq_true rfl⟩ (Nat.le_of_ble_eq_true rfl) (fun T3 σ1 h2 => ?_)
  obtain ⟨hRCb, hTa, hTb, hMo⟩ := h2
  have hBc : Bc L 200 220 T3 := ⟨hTa, hTb⟩
  refine r_aload_n hX dX9_back_21 rfl ?_
  refine r_getR hX dX9_back_22 fl_X9_10 (hA.1 100 (8, 0) rfl) rfl ((hTb (100) 0 (by decide)).trans (hA.2.1 100 0 200 rfl)) ?_
  refine r_getR hX dX9_back_25 fl_X9_86 (hC.1 0 (2, 0) rfl) rfl ((hTb (200 + 0) 5 (by decide)).trans (hC.2.1 0 5 4 rfl)) ?_
  refine r_getIV hX dX9_back_28 fl_X9_176 (hC.1 4 (7, 0) rfl) rfl (nI (aW B)) hRCb.2.1.1 ?_
  exact r_ireturn hX hQ dX9_back_31 ⟨Nat.le_of_ble_eq_true rfl, Nat.le_of_ble_eq_true rfl⟩ (PNI.mk ⟨rfl, hBc.cat (by decide) hA, hBc.wl hWl hCi, hBc.lx, rfl, rfl, hRCb, hBc.lt hLT, fun d i hd => hMo d i (by unfold pRm at hd; omega)⟩)

set_option maxHeartbeats 4000000 in
set_option maxRecDepth 100000 in
theorem c_X9_back0 {l : Launch} {D : Ds} {L : La}  (hA : CAt L) (hI : L.2.2 100 8 = none) (σ : Me) : Ct l yX9_back cX9_back 1 (some .int) { frames := 0, cells := 0, slots := 0, locals := 0 } D L σ [.ref (L.1 100)] (PF L σ (-1000000002)) := by
  refine Ct.of (by decide) (Nat.le_of_ble_eq_true rfl) ?_
  intro X hl hD hnl hX0 hQ
  have hX : Ok X cX9_back RX9 "back" { frames := 0, cells := 0, slots := 0, locals := 0 } (some .int) := hX0
  have hC := hA.2.2
  show At X L σ 0 0 [(0, .ref (L.1 100))] 0 []
  refine r_aload_n hX dX9_back_0 rfl ?_
  refine r_getN hX dX9_back_1 fl_X9_59 (hA.1 100 (8, 0) rfl) rfl hI ?_
  refine r_ifnonnullN hX dX9_back_4 ?_
  refine r_ldc hX dX9_back_7 ko_X9_236 ?_
  exact r_ireturn hX hQ dX9_back_9 ⟨Nat.le_of_ble_eq_true rfl, Nat.le_of_ble_eq_true rfl⟩ (PF.mk rfl)
