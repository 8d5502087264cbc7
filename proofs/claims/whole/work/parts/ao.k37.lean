set_option maxHeartbeats 4000000 in
set_option maxRecDepth 100000 in
theorem c_X9_text {l : Launch} {D : Ds} {L : La}  (J : Nat → Nat × Nat) (hJ : CW D J) (hA : CAt L) (σ : Me) (A : Al) (h0 : R0 σ 200 A) (hW : RW σ 200 A) (hTx : RX' L σ 200 A) (hV : Va A) (hWl : Wl L) (hLT : LT L 200) (N : Nat) (hNF : NF L N) (P : Tp) (hP : RTc σ P) : Ct l yX9_text cX9_text 2 (some .int) { frames := 153, cells := 3, slots := 196, locals := 3870 } D L σ [.ref (L.1 100)] (PNI (fun r L2 σ2 => r = (oText A P).1 ∧ RC L2 σ2 200 (oText A P).2 ∧ XtP L σ N L2 σ2)) := by
  refine Ct.of (by decide) (Nat.le_of_ble_eq_true rfl) ?_
  intro X hl hD hnl hX0 hQ
  have hX : Ok X cX9_text RX9 "text" { frames := 153, cells := 3, slots := 196, locals := 3870 } (some .int) := hX0
  have hN1 : 1 < xn X := by rw [hnl]; decide
  have hC := hA.2.2
  have hNb := hNF.1
  show At X L σ 0 0 [(0, .ref (L.1 100))] 0 []
  refine r_aload_n hX dX9_text_0 rfl ?_
  refine r_getR hX dX9_text_1 fl_X9_35 (hA.1 100 (8, 0) rfl) rfl (hA.2.1 100 3 105 rfl) ?_
  refine r_callVNR (As := []) (rest := []) hX (by rw [hl, hD]; exact c_X2_read J hJ hA hWl N hNF σ P hP) dX9_text_4 cb_X9_250 (hA.1 105 (1, 0) rfl) rfl rfl ⟨Nat.le_of_ble_eq_true rfl, Nat.le_of_ble_eq_true rfl⟩ ⟨Nat.le_of_ble_eq_true rfl, Nat.le_of_ble_eq_true rfl⟩ (Nat.le_of_ble_eq_true rfl) (fun r4 L1 σ2 h3 => ?_)
  rcases hrd : rdT P with f | t
  · skip
    rw [hrd] at h3
    obtain ⟨hre, hLe, h5, hx⟩ := h3
    subst hre
    replace hLe := hLe.symm
    subst hLe
    refine r_astore_nN hX [(0, .ref (L.1 100)), (1, .null)] dX9_text_7 hN1 rfl ?_
    refine r_aload_n hX dX9_text_8 rfl ?_
    refine r_getR hX dX9_text_9 fl_X9_26 (hA.1 100 (8, 0) rfl) rfl (hA.2.1 100 2 103 rfl) ?_
    refine r_iconst hX (nI 0) dX9_text_12 rfl ?_
    refine r_putI hX dX9_text_13 fl_X9_246 (hA.1 103 (5, 0) rfl) rfl rfl rfl rfl ?_
    refine r_aload_nN hX dX9_text_16 rfl ?_
    refine r_ifnonnullN hX dX9_text_17 ?_
    refine r_bipush hX (-100) dX9_text_20 rfl ?_
    refine r_aload_n hX dX9_text_22 rfl ?_
    refine r_getR hX dX9_text_23 fl_X9_35 (hA.1 100 (8, 0) rfl) rfl (hA.2.1 100 3 105 rfl) ?_
    refine r_getIV hX dX9_text_26 fl_X9_254 (hA.1 105 (1, 0) rfl) rfl (nI f) ((up_n (by omega)).trans h5) ?_
    refine r_isub hX dX9_text_29 ?_
    refine r_goto hX dX9_text_30 ?_
    exact r_ireturn hX hQ dX9_text_41 ⟨Nat.le_of_ble_eq_true rfl, Nat.le_of_ble_eq_true rfl⟩ (PNI.mk ⟨by rw [oText_f hrd], by rw [oText_f hrd]; exact ⟨h0.lay (fun c i h1 h2 => (up_n (by omega)).trans (hx c i (pYc_big (by omega)))), hW.lay (fun c i h1 h2 => (up_n (by omega)).trans (hx c i (pYc_big (by omega)))), hTx.kept (fun c i h1 h2 => (up_n (by omega)).trans (hx c i (pYc_big (by omega))))⟩, xt_n hA hWl hLT hx⟩)
  · skip
    rw [hrd] at h3
    have hre := h3.1
    subst hre
    have hx := h3.2.1
    have hfr := h3.2.2.2.2.2
    have hA2 : CAt L1 := hA.tx hx hNb
    refine At.to (ls' := [(0, .ref (L1.1 100))]) (st' := [.ref (L1.1 N)]) ?_ (by rw [(show L1.1 (100) = L.1 (100) from (hx (100) (by unfold pTx; omega)).1)] <;> rfl) rfl rfl
    refine r_astore_n hX [(0, .ref (L1.1 100)), (1, .ref (L1.1 N))] dX9_text_7 hN1 rfl ?_
    refine r_aload_n hX dX9_text_8 rfl ?_
    refine r_getR hX dX9_text_9 fl_X9_26 (hA2.1 100 (8, 0) rfl) rfl (hA2.2.1 100 2 103 rfl) ?_
    refine r_iconst hX (nI 0) dX9_text_12 rfl ?_
    refine r_putI hX dX9_text_13 fl_X9_246 (hA2.1 103 (5, 0) rfl) rfl rfl rfl rfl ?_
    refine r_aload_n hX dX9_text_16 rfl ?_
    refine r_ifnonnull hX dX9_text_17 ?_
    have hok := rdT_ok (fun k hk => (hP.2.2 k hk).2) hP.2.1 hrd
    refine r_aload_n hX dX9_text_33 rfl ?_
    refine r_getR hX dX9_text_34 fl_X9_10 (hA2.1 100 (8, 0) rfl) rfl (hA2.2.1 100 0 200 rfl) ?_
    refine r_aload_n hX dX9_text_37 rfl ?_
    have hRX : RX' L1 (up σ2 103 1 (nI 0)) 200 A := (hTx.mem hNF (fun c i h1 h2 h3 => (up_n (by omega)).trans (hfr c i (by unfold pTx; omega) (pYc_big (by omega))))).tx (by decide) hNF hx
    refine r_callVNI (As := [.ref (L1.1 N)]) (rest := []) hX (c_X3_addText hA2 (up σ2 103 1 (nI 0)) A (h0.lay (fun c i h1 h2 => (up_n (by omega)).trans (hfr c i (by unfold pTx; omega) (pYc_big (by omega))))) (hW.lay (fun c i h1 h2 => (up_n (by omega)).trans (hfr c i (by unfold pTx; omega) (pYc_big (by omega))))) hRX hV N (txR t) hok.1 ⟨hNb, hNF.2.1⟩ h3.2.2.2.1 (h3.2.2.2.2.1.kept (fun c i hc => up_n (by omega)))) dX9_text_38 cb_X9_257 (hA2.2.2.1 0 (2, 0) rfl) rfl rfl ⟨Nat.le_of_ble_eq_true rfl, Nat.le_of_ble_eq_true rfl⟩ ⟨Nat.le_of_ble_eq_true rfl, Nat.le_of_ble_eq_true rfl⟩ (Nat.le_of_ble_eq_true rfl) (fun r8 L5 σ6 h7 => ?_)
    have hax := h7.2.2
    refine At.to (ls' := [(0, .ref (L5.1 100)), (1, .ref (L5.1 N))]) (st' := [.int r8]) ?_ (by rw [(show L5.1 (100) = L1.1 (100) from congrFun hax.2.1 _), (show L5.1 (N) = L1.1 (N) from congrFun hax.2.1 _)] <;> rfl) rfl rfl
    exact r_ireturn hX hQ dX9_text_41 ⟨Nat.le_of_ble_eq_true rfl, Nat.le_of_ble_eq_true rfl⟩ (PNI.mk (if z : (aX A).length = 14 then (by have q1 := h7.1; have q2 := h7.2.1; rw [if_pos z] at q1 q2; rw [oText_n hrd z]; exact ⟨q1, q2, xt_y hA hNF hLT h3 hax⟩) else (by have q1 := h7.1; have q2 := h7.2.1; rw [if_neg z] at q1 q2; rw [oText_y hrd z]; exact ⟨q1, q2, xt_y hA hNF hLT h3 hax⟩)))
