set_option maxHeartbeats 4000000 in
set_option maxRecDepth 100000 in
theorem c_X10_factsOf {l : Launch} {D : Ds} {L : La} (hM : MAt L) (σ : Me) (A : Al) (hR : RM (σ 1) A) (hV : Va A) (w : Nat) (hw : w < aW A) : Ct l yX10_factsOf cX10_factsOf 2 none { frames := 2, cells := 0, slots := 0, locals := 46 } D L σ [.ref (L.1 0), .int (nI w)] (PV L (fun σ2 => Of 9 σ σ2 ∧ ∀ i, ltr 0 i = true ∨ ltr 1 i = true → σ2 9 i = fW A w i)) := by
  refine Ct.of (by decide) (Nat.le_of_ble_eq_true rfl) ?_
  intro X hl hD hnl hX0 hQ
  have hX : Ok X cX10_factsOf RX10 "factsOf" { frames := 2, cells := 0, slots := 0, locals := 46 } none := hX0
  have hwf := hV.2.2.2.2.2.2.1 w hw
  have hW := hV.2.2.1
  have hn := hV.2.1
  show At X L σ 0 0 [(0, .ref (L.1 0)), (1, .int (nI w))] 0 []
  refine r_aload_n hX dX10_factsOf_0 rfl ?_
  refine r_getR hX dX10_factsOf_1 fl_X10_35 (hM.1 0 (9, 0) rfl) rfl (hM.2 19 9 rfl) ?_
  refine r_bipush hX (nI 18) dX10_factsOf_4 rfl ?_
  refine r_aload_n hX dX10_factsOf_6 rfl ?_
  refine r_iload_n hX dX10_factsOf_7 rfl ?_
  refine r_iconst hX (nI 4) dX10_factsOf_8 rfl ?_
  refine r_callVF (As := [.int (nI w), .int (nI 4)]) (rest := [.int (nI 18), .ref (L.1 9)]) hX (c_X10_ofA hM σ A hR hV w 4 (by omega) (by omega)) dX10_factsOf_9 cb_X10_74 (hM.1 0 (9, 0) rfl) rfl rfl ⟨Nat.le_of_ble_eq_true rfl, Nat.le_of_ble_eq_true rfl⟩ ⟨Nat.le_of_ble_eq_true rfl, Nat.le_of_ble_eq_true rfl⟩ (Nat.le_of_ble_eq_true rfl) ?_
  refine r_astN hX dX10_factsOf_12 (hM.1 9 (10, 26) rfl) (by decide) (by decide) ?_
  refine r_aload_n hX dX10_factsOf_13 rfl ?_
  refine r_getR hX dX10_factsOf_14 fl_X10_35 (hM.1 0 (9, 0) rfl) rfl (hM.2 19 9 rfl) ?_
  refine r_bipush hX (nI 7) dX10_factsOf_17 rfl ?_
  refine r_aload_n hX dX10_factsOf_19 rfl ?_
  refine r_iload_n hX dX10_factsOf_20 rfl ?_
  refine r_iconst hX (nI 3) dX10_factsOf_21 rfl ?_
  refine r_callVF (As := [.int (nI w), .int (nI 3)]) (rest := [.int (nI 7), .ref (L.1 9)]) hX (c_X10_ofA hM (up σ 9 18 (nI (aF A w 4))) A (by rw [up_row (by decide)]; exact hR) hV w 3 (by omega) (by omega)) dX10_factsOf_22 cb_X10_74 (hM.1 0 (9, 0) rfl) rfl rfl ⟨Nat.le_of_ble_eq_true rfl, Nat.le_of_ble_eq_true rfl⟩ ⟨Nat.le_of_ble_eq_true rfl, Nat.le_of_ble_eq_true rfl⟩ (Nat.le_of_ble_eq_true rfl) ?_
  refine r_astN hX dX10_factsOf_25 (hM.1 9 (10, 26) rfl) (by decide) (by decide) ?_
  refine r_aload_n hX dX10_factsOf_26 rfl ?_
  refine r_getR hX dX10_factsOf_27 fl_X10_35 (hM.1 0 (9, 0) rfl) rfl (hM.2 19 9 rfl) ?_
  refine r_iconst hX (nI 1) dX10_factsOf_30 rfl ?_
  refine r_aload_n hX dX10_factsOf_31 rfl ?_
  refine r_getR hX dX10_factsOf_32 fl_X10_9 (hM.1 0 (9, 0) rfl) rfl (hM.2 0 1 rfl) ?_
  refine r_bipush hX (nI 17) dX10_factsOf_35 rfl ?_
  refine r_aload_n hX dX10_factsOf_37 rfl ?_
  refine r_iload_n hX dX10_factsOf_38 rfl ?_
  refine r_iconst hX (nI 2) dX10_factsOf_39 rfl ?_
  refine r_callVF (As := [.int (nI w), .int (nI 2)]) (rest := [.int (nI 17), .ref (L.1 1), .int (nI 1), .ref (L.1 9)]) hX (c_X10_ofA hM (up (up σ 9 18 (nI (aF A w 4))) 9 7 (nI (aF A w 3))) A (by rw [up_row (by decide), up_row (by decide)]; exact hR) hV w 2 (by omega) (by omega)) dX10_factsOf_40 cb_X10_74 (hM.1 0 (9, 0) rfl) rfl rfl ⟨Nat.le_of_ble_eq_true rfl, Nat.le_of_ble_eq_true rfl⟩ ⟨Nat.le_of_ble_eq_true rfl, Nat.le_of_ble_eq_true rfl⟩ (Nat.le_of_ble_eq_true rfl) ?_
  refine r_iaddN hX dX10_factsOf_43 ?_
  refine r_aldN hX dX10_factsOf_44 (hM.1 1 (10, 1605) rfl) (by decide) (by omega) (nI (aE A (aF A w 2))) (by rw [up_n (by omega), up_n (by omega)]; exact (hR.2.2.2.2.2.2.1 _ hwf.2.2.1)) ?_
  refine r_astN hX dX10_factsOf_45 (hM.1 9 (10, 26) rfl) (by decide) (by decide) ?_
  refine r_aload_n hX dX10_factsOf_46 rfl ?_
  refine r_getR hX dX10_factsOf_47 fl_X10_35 (hM.1 0 (9, 0) rfl) rfl (hM.2 19 9 rfl) ?_
  refine r_iconst hX (nI 2) dX10_factsOf_50 rfl ?_
  refine r_aload_n hX dX10_factsOf_51 rfl ?_
  refine r_iconst hX (nI 2) dX10_factsOf_52 rfl ?_
  refine r_aload_n hX dX10_factsOf_53 rfl ?_
  refine r_iload_n hX dX10_factsOf_54 rfl ?_
  refine r_iconst hX (nI 2) dX10_factsOf_55 rfl ?_
  refine r_callVF (As := [.int (nI w), .int (nI 2)]) (rest := [.int (nI 2), .ref (L.1 0), .int (nI 2), .ref (L.1 9)]) hX (c_X10_ofA hM (up (up (up σ 9 18 (nI (aF A w 4))) 9 7 (nI (aF A w 3))) 9 1 (nI (aE A (aF A w 2)))) A (by rw [up_row (by decide), up_row (by decide), up_row (by decide)]; exact hR) hV w 2 (by omega) (by omega)) dX10_factsOf_56 cb_X10_74 (hM.1 0 (9, 0) rfl) rfl rfl ⟨Nat.le_of_ble_eq_true rfl, Nat.le_of_ble_eq_true rfl⟩ ⟨Nat.le_of_ble_eq_true rfl, Nat.le_of_ble_eq_true rfl⟩ (Nat.le_of_ble_eq_true rfl) ?_
  refine r_callVF (As := [.int (nI 2), .int (nI (aF A w 2))]) (rest := [.int (nI 2), .ref (L.1 9)]) hX (c_X10_wordsOf hM (up (up (up σ 9 18 (nI (aF A w 4))) 9 7 (nI (aF A w 3))) 9 1 (nI (aE A (aF A w 2)))) A (by rw [up_row (by decide), up_row (by decide), up_row (by decide)]; exact hR) hV 2 (aF A w 2) (by omega) (by omega)) dX10_factsOf_59 cb_X10_82 (hM.1 0 (9, 0) rfl) rfl rfl ⟨Nat.le_of_ble_eq_true rfl, Nat.le_of_ble_eq_true rfl⟩ ⟨Nat.le_of_ble_eq_true rfl, Nat.le_of_ble_eq_true rfl⟩ (Nat.le_of_ble_eq_true rfl) ?_
  refine r_astN hX dX10_factsOf_62 (hM.1 9 (10, 26) rfl) (by decide) (by decide) ?_
  exact r_return hX hQ dX10_factsOf_63 ⟨Nat.le_of_ble_eq_true rfl, Nat.le_of_ble_eq_true rfl⟩ (PV.mk ⟨Of.up (Of.up (Of.up (Of.up (Of.rf σ)))), fun i hi => by rcases (show i = 18 ∨ i = 7 ∨ i = 1 ∨ i = 2 by rcases hi with h | h <;> simp [ltr] at h <;> omega) with rfl | rfl | rfl | rfl <;> simp [up, fW]⟩)

set_option maxHeartbeats 4000000 in
set_option maxRecDepth 100000 in
theorem c_X10_plainWeight {l : Launch} {D : Ds} {L : La} (hM : MAt L) (σ : Me) (A : Al) (hR : RM (σ 1) A) (hV : Va A) (w : Nat) (hw : w < aW A) : Ct l yX10_plainWeight cX10_plainWeight 3 (some .int) { frames := 3, cells := 0, slots := 0, locals := 67 } D L σ [.ref (L.1 0), .int (nI w)] (PI L (fun r σ2 => r = nI (pwN A w) ∧ Sw σ σ2)) := by
  refine Ct.of (by decide) (Nat.le_of_ble_eq_true rfl) ?_
  intro X hl hD hnl hX0 hQ
  have hX : Ok X cX10_plainWeight RX10 "plainWeight" { frames := 3, cells := 0, slots := 0, locals := 67 } (some .int) := hX0
  have hN2 : 2 < xn X := by rw [hnl]; decide
  show At X L σ 0 0 [(0, .ref (L.1 0)), (1, .int (nI w))] 0 []
  refine r_aload_n hX dX10_plainWeight_0 rfl ?_
  refine r_iconst hX (nI 0) dX10_plainWeight_1 rfl ?_
  refine r_callVF (As := [.int (nI 0)]) (rest := []) hX (c_X10_latest hM σ A hR hV 0 (by omega)) dX10_plainWeight_2 cb_X10_110 (hM.1 0 (9, 0) rfl) rfl rfl ⟨Nat.le_of_ble_eq_true rfl, Nat.le_of_ble_eq_true rfl⟩ ⟨Nat.le_of_ble_eq_true rfl, Nat.le_of_ble_eq_true rfl⟩ (Nat.le_of_ble_eq_true rfl) ?_
  rcases hO : lst A 0 (aX A).length with _ | x
  · skip
    show At X L σ 0 0 [(0, .ref (L.1 0)), (1, .int (nI w))] 5 [.int (-1)]
    refine r_istore_n hX [(0, .ref (L.1 0)), (1, .int (nI w)), (2, .int (-1))] dX10_plainWeight_5 hN2 rfl ?_
    refine r_iload_n hX dX10_plainWeight_6 rfl ?_
    refine r_if_ge hX dX10_plainWeight_7 (fun c1 => absurd c1 (by decide)) (fun c1 => ?_)
    refine r_iconst hX (nI 2) dX10_plainWeight_10 rfl ?_
    exact r_ireturn hX hQ dX10_plainWeight_11 ⟨Nat.le_of_ble_eq_true rfl, Nat.le_of_ble_eq_true rfl⟩ (PI.mk ⟨by unfold pwN; rw [hO], (Sw.rf σ)⟩)
  · skip
    show At X L σ 0 0 [(0, .ref (L.1 0)), (1, .int (nI w))] 5 [.int (nI x)]
    obtain ⟨hx, hxk⟩ := lst_lt hO
    have hX14 := hV.2.2.2.1
    refine r_istore_n hX [(0, .ref (L.1 0)), (1, .int (nI w)), (2, .int (nI x))] dX10_plainWeight_5 hN2 rfl ?_
    refine r_iload_n hX dX10_plainWeight_6 rfl ?_
    refine r_ifN_ge hX dX10_plainWeight_7 (by omega) ?_
    refine r_aload_n hX dX10_plainWeight_12 rfl ?_
    refine r_iload_n hX dX10_plainWeight_13 rfl ?_
    refine r_callVV (As := [.int (nI w)]) (rest := []) hX (c_X10_factsOf hM σ A hR hV w (by omega)) dX10_plainWeight_14 cb_X10_113 (hM.1 0 (9, 0) rfl) rfl rfl ⟨Nat.le_of_ble_eq_true rfl, Nat.le_of_ble_eq_true rfl⟩ ⟨Nat.le_of_ble_eq_true rfl, Nat.le_of_ble_eq_true rfl⟩ (Nat.le_of_ble_eq_true rfl) (fun σ2 h3 => ?_)
    obtain ⟨hS4, hF5⟩ := h3
    have hR6 : RM (σ2 1) A := by rw [hS4.row (by decide)]; exact hR
    refine r_aload_n hX dX10_plainWeight_17 rfl ?_
    refine r_iload_n hX dX10_plainWeight_18 rfl ?_
    refine r_callVI (As := [.int (nI x)]) (rest := []) hX (c_X10_worth hM σ2 A hR6 hV x hx) dX10_plainWeight_19 cb_X10_117 (hM.1 0 (9, 0) rfl) rfl rfl ⟨Nat.le_of_ble_eq_true rfl, Nat.le_of_ble_eq_true rfl⟩ ⟨Nat.le_of_ble_eq_true rfl, Nat.le_of_ble_eq_true rfl⟩ (Nat.le_of_ble_eq_true rfl) (fun r7 σ8 h9 => ?_)
    obtain ⟨hE11, hS10⟩ := h9
    rw [evV_cong (okT_at hV hx) (g := fW A w) (fun i hi => by rw [hxk] at hi; exact hF5 i (Or.inl hi))] at hE11
    subst hE11
    have hR12 : RM (σ8 1) A := by rw [hS10.row (by decide)]; exact hR6
    refine r_bipush hX (nI 9) dX10_plainWeight_22 rfl ?_
    refine r_callSF (As := [.int (evV (fW A w) (tx A x).2.2), .int (nI 9)]) (rest := []) hX (c_X10_held σ8 (evV (fW A w) (tx A x).2.2) (nI 9)) dX10_plainWeight_24 cb_X10_120 rfl rfl ⟨Nat.le_of_ble_eq_true rfl, Nat.le_of_ble_eq_true rfl⟩ ⟨Nat.le_of_ble_eq_true rfl, Nat.le_of_ble_eq_true rfl⟩ (Nat.le_of_ble_eq_true rfl) ?_
    exact r_ireturn hX hQ dX10_plainWeight_27 ⟨Nat.le_of_ble_eq_true rfl, Nat.le_of_ble_eq_true rfl⟩ (PI.mk ⟨by unfold pwN; rw [hO]; exact hdI_9 _, (Sw.tr (Sw.tr (Sw.rf σ) hS4.s9) hS10.s11)⟩)

set_option maxHeartbeats 4000000 in
set_option maxRecDepth 100000 in
theorem c_X10_sign {l : Launch} {D : Ds} {L : La} (hM : MAt L) (σ : Me) (A : Al) (hR : RM (σ 1) A) (hV : Va A) (w : Nat) (hw : w < aW A) : Ct l yX10_sign cX10_sign 3 (some .int) { frames := 3, cells := 0, slots := 0, locals := 67 } D L σ [.ref (L.1 0), .int (nI w)] (PI L (fun r σ2 => r = nI (sgN A w) ∧ Sw σ σ2)) := by
  refine Ct.of (by decide) (Nat.le_of_ble_eq_true rfl) ?_
  intro X hl hD hnl hX0 hQ
  have hX : Ok X cX10_sign RX10 "sign" { frames := 3, cells := 0, slots := 0, locals := 67 } (some .int) := hX0
  have hN2 : 2 < xn X := by rw [hnl]; decide
  show At X L σ 0 0 [(0, .ref (L.1 0)), (1, .int (nI w))] 0 []
  refine r_aload_n hX dX10_sign_0 rfl ?_
  refine r_iconst hX (nI 1) dX10_sign_1 rfl ?_
  refine r_callVF (As := [.int (nI 1)]) (rest := []) hX (c_X10_latest hM σ A hR hV 1 (by omega)) dX10_sign_2 cb_X10_110 (hM.1 0 (9, 0) rfl) rfl rfl ⟨Nat.le_of_ble_eq_true rfl, Nat.le_of_ble_eq_true rfl⟩ ⟨Nat.le_of_ble_eq_true rfl, Nat.le_of_ble_eq_true rfl⟩ (Nat.le_of_ble_eq_true rfl) ?_
  rcases hO : lst A 1 (aX A).length with _ | x
  · skip
    show At X L σ 0 0 [(0, .ref (L.1 0)), (1, .int (nI w))] 5 [.int (-1)]
    refine r_istore_n hX [(0, .ref (L.1 0)), (1, .int (nI w)), (2, .int (-1))] dX10_sign_5 hN2 rfl ?_
    refine r_iload_n hX dX10_sign_6 rfl ?_
    refine r_if_ge hX dX10_sign_7 (fun c1 => absurd c1 (by decide)) (fun c1 => ?_)
    refine r_iconst hX (nI 0) dX10_sign_10 rfl ?_
    exact r_ireturn hX hQ dX10_sign_11 ⟨Nat.le_of_ble_eq_true rfl, Nat.le_of_ble_eq_true rfl⟩ (PI.mk ⟨by unfold sgN; rw [hO], (Sw.rf σ)⟩)
  · skip
    show At X L σ 0 0 [(0, .ref (L.1 0)), (1, .int (nI w))] 5 [.int (nI x)]
    obtain ⟨hx, hxk⟩ := lst_lt hO
    have hX14 := hV.2.2.2.1
    refine r_istore_n hX [(0, .ref (L.1 0)), (1, .int (nI w)), (2, .int (nI x))] dX10_sign_5 hN2 rfl ?_
    refine r_iload_n hX dX10_sign_6 rfl ?_
    refine r_ifN_ge hX dX10_sign_7 (by omega) ?_
    refine r_aload_n hX dX10_sign_12 rfl ?_
    refine r_iload_n hX dX10_sign_13 rfl ?_
    refine r_callVV (As := [.int (nI w)]) (rest := []) hX (c_X10_factsOf hM σ A hR hV w (by omega)) dX10_sign_14 cb_X10_113 (hM.1 0 (9, 0) rfl) rfl rfl ⟨Nat.le_of_ble_eq_true rfl, Nat.le_of_ble_eq_true rfl⟩ ⟨Nat.le_of_ble_eq_true rfl, Nat.le_of_ble_eq_true rfl⟩ (Nat.le_of_ble_eq_true rfl) (fun σ2 h3 => ?_)
    obtain ⟨hS4, hF5⟩ := h3
    have hR6 : RM (σ2 1) A := by rw [hS4.row (by decide)]; exact hR
    refine r_aload_n hX dX10_sign_17 rfl ?_
    refine r_iload_n hX dX10_sign_18 rfl ?_
    refine r_callVI (As := [.int (nI x)]) (rest := []) hX (c_X10_worth hM σ2 A hR6 hV x hx) dX10_sign_19 cb_X10_117 (hM.1 0 (9, 0) rfl) rfl rfl ⟨Nat.le_of_ble_eq_true rfl, Nat.le_of_ble_eq_true rfl⟩ ⟨Nat.le_of_ble_eq_true rfl, Nat.le_of_ble_eq_true rfl⟩ (Nat.le_of_ble_eq_true rfl) (fun r7 σ8 h9 => ?_)
    obtain ⟨hE11, hS10⟩ := h9
    rw [evV_cong (okT_at hV hx) (g := fW A w) (fun i hi => by rw [hxk] at hi; exact hF5 i (Or.inr hi))] at hE11
    subst hE11
    have hR12 : RM (σ8 1) A := by rw [hS10.row (by decide)]; exact hR6
    refine r_bipush hX (nI 9) dX10_sign_22 rfl ?_
    refine r_callSF (As := [.int (evV (fW A w) (tx A x).2.2), .int (nI 9)]) (rest := []) hX (c_X10_held σ8 (evV (fW A w) (tx A x).2.2) (nI 9)) dX10_sign_24 cb_X10_120 rfl rfl ⟨Nat.le_of_ble_eq_true rfl, Nat.le_of_ble_eq_true rfl⟩ ⟨Nat.le_of_ble_eq_true rfl, Nat.le_of_ble_eq_true rfl⟩ (Nat.le_of_ble_eq_true rfl) ?_
    exact r_ireturn hX hQ dX10_sign_27 ⟨Nat.le_of_ble_eq_true rfl, Nat.le_of_ble_eq_true rfl⟩ (PI.mk ⟨by unfold sgN; rw [hO]; exact hdI_9 _, (Sw.tr (Sw.tr (Sw.rf σ) hS4.s9) hS10.s11)⟩)
