set_option maxHeartbeats 4000000 in
set_option maxRecDepth 100000 in
theorem c_X3_lawOf0 {l : Launch} {D : Ds} {L : La}  (b : Nat) (hC : RAt L b) (σ : Me) (A : Al) (h0 : R0 σ b A) (y : Nat) (hy : y ≤ 2) (hO : lst A y (aX A).length = none) : Ct l yX3_lawOf cX3_lawOf 3 (some (.object "FiveStars$Text")) { frames := 0, cells := 0, slots := 0, locals := 0 } D L σ [.ref (L.1 (b + 0)), .int (nI y)] (PR L σ .null) := by
  refine Ct.of (by decide) (Nat.le_of_ble_eq_true rfl) ?_
  intro X hl hD hnl hX0 hQ
  have hX : Ok X cX3_lawOf RX3 "lawOf" { frames := 0, cells := 0, slots := 0, locals := 0 } (some (.object "FiveStars$Text")) := hX0
  have hN2 : 2 < xn X := by rw [hnl]; decide
  show At X L σ 0 0 [(0, .ref (L.1 (b + 0))), (1, .int (nI y))] 0 []
  refine r_aload_n hX dX3_lawOf_0 rfl ?_
  refine r_getR hX dX3_lawOf_1 fl_X3_44 (hC.1 0 (2, 0) rfl) rfl (hC.2.1 0 8 6 rfl) ?_
  refine r_iload_n hX dX3_lawOf_4 rfl ?_
  refine r_aldN hX dX3_lawOf_5 (hC.1 6 (10, 3) rfl) (by decide) (by omega) (-1) ((h0.2.2.2.2.2.2.2 y (by omega)).trans (by rw [hO]; rfl)) ?_
  refine r_istore_n hX [(0, .ref (L.1 (b + 0))), (1, .int (nI y)), (2, .int (-1))] dX3_lawOf_6 hN2 rfl ?_
  refine r_iload_n hX dX3_lawOf_7 rfl ?_
  refine r_if_ge hX dX3_lawOf_8 (fun c1 => absurd c1 (by decide)) (fun c1 => ?_)
  refine r_null hX dX3_lawOf_11 ?_
  refine r_goto hX dX3_lawOf_12 ?_
  exact r_areturn hX hQ dX3_lawOf_21 ⟨Nat.le_of_ble_eq_true rfl, Nat.le_of_ble_eq_true rfl⟩ (Or.inl ⟨_, rfl⟩) (Or.inl rfl) PR.mk

set_option maxHeartbeats 4000000 in
set_option maxRecDepth 100000 in
theorem c_X3_lawOf1 {l : Launch} {D : Ds} {L : La}  (b : Nat) (hC : RAt L b) (σ : Me) (A : Al) (h0 : R0 σ b A) (y x o : Nat) (hy : y ≤ 2) (hO : lst A y (aX A).length = some x) (hX14 : (aX A).length ≤ 14) (ho : L.2.2 (b + 5) x = some o) : Ct l yX3_lawOf cX3_lawOf 3 (some (.object "FiveStars$Text")) { frames := 0, cells := 0, slots := 0, locals := 0 } D L σ [.ref (L.1 (b + 0)), .int (nI y)] (PR L σ (.ref (L.1 o))) := by
  refine Ct.of (by decide) (Nat.le_of_ble_eq_true rfl) ?_
  intro X hl hD hnl hX0 hQ
  have hX : Ok X cX3_lawOf RX3 "lawOf" { frames := 0, cells := 0, slots := 0, locals := 0 } (some (.object "FiveStars$Text")) := hX0
  have hN2 : 2 < xn X := by rw [hnl]; decide
  obtain ⟨hxl, hxk⟩ := lst_lt hO
  show At X L σ 0 0 [(0, .ref (L.1 (b + 0))), (1, .int (nI y))] 0 []
  refine r_aload_n hX dX3_lawOf_0 rfl ?_
  refine r_getR hX dX3_lawOf_1 fl_X3_44 (hC.1 0 (2, 0) rfl) rfl (hC.2.1 0 8 6 rfl) ?_
  refine r_iload_n hX dX3_lawOf_4 rfl ?_
  refine r_aldN hX dX3_lawOf_5 (hC.1 6 (10, 3) rfl) (by decide) (by omega) (nI x) ((h0.2.2.2.2.2.2.2 y (by omega)).trans (by rw [hO]; rfl)) ?_
  refine r_istore_n hX [(0, .ref (L.1 (b + 0))), (1, .int (nI y)), (2, .int (nI x))] dX3_lawOf_6 hN2 rfl ?_
  refine r_iload_n hX dX3_lawOf_7 rfl ?_
  refine r_ifN_ge hX dX3_lawOf_8 (by omega) ?_
  refine r_aload_n hX dX3_lawOf_15 rfl ?_
  refine r_getR hX dX3_lawOf_16 fl_X3_40 (hC.1 0 (2, 0) rfl) rfl (hC.2.1 0 7 5 rfl) ?_
  refine r_iload_n hX dX3_lawOf_19 rfl ?_
  refine r_aald hX dX3_lawOf_20 (hC.1 5 (15, 14) rfl) (by decide) (by decide) (by decide) (by omega) (.ref (L.1 o)) (by rw [ho]; rfl) ?_
  exact r_areturn hX hQ dX3_lawOf_21 ⟨Nat.le_of_ble_eq_true rfl, Nat.le_of_ble_eq_true rfl⟩ (Or.inl ⟨_, rfl⟩) (Or.inr ⟨_, rfl⟩) PR.mk

set_option maxHeartbeats 4000000 in
set_option maxRecDepth 100000 in
theorem c_X3_held {l : Launch} {D : Ds} {L : La}  (σ : Me) (v : Int32) : Ct l yX3_held cX3_held 1 (some .int) { frames := 1, cells := 0, slots := 0, locals := 21 } D L σ [.int v] (PF L σ (nI (hdN v))) := by
  refine Ct.of (by decide) (Nat.le_of_ble_eq_true rfl) ?_
  intro X hl hD hnl hX0 hQ
  have hX : Ok X cX3_held RX3 "held" { frames := 1, cells := 0, slots := 0, locals := 21 } (some .int) := hX0
  show At X L σ 0 0 [(0, .int v)] 0 []
  refine r_iconst hX (nI 0) dX3_held_0 rfl ?_
  refine r_bipush hX (nI 9) dX3_held_1 rfl ?_
  refine r_iload_n hX dX3_held_3 rfl ?_
  refine r_min hX dX3_held_4 cb_X3_70 ⟨Nat.le_of_ble_eq_true rfl, Nat.le_of_ble_eq_true rfl⟩ ⟨Nat.le_of_ble_eq_true rfl, Nat.le_of_ble_eq_true rfl⟩ (Nat.le_of_ble_eq_true rfl) (miI (nI 9) v) rfl ?_
  refine r_max hX dX3_held_7 cb_X3_76 ⟨Nat.le_of_ble_eq_true rfl, Nat.le_of_ble_eq_true rfl⟩ ⟨Nat.le_of_ble_eq_true rfl, Nat.le_of_ble_eq_true rfl⟩ (Nat.le_of_ble_eq_true rfl) (nI (hdN v)) (held_eq v) ?_
  exact r_ireturn hX hQ dX3_held_10 ⟨Nat.le_of_ble_eq_true rfl, Nat.le_of_ble_eq_true rfl⟩ (PF.mk rfl)

set_option maxHeartbeats 4000000 in
set_option maxRecDepth 100000 in
theorem c_X3_weightOf {l : Launch} {D : Ds} {L : La}  (b : Nat) (hC : RAt L b) (σ : Me) (A : Al) (h0 : R0 σ b A) (hW : RW σ b A) (hTx : RX' L σ b A) (hV : Va A) (w : Nat) (hw : w < aW A) : Ct l yX3_weightOf cX3_weightOf 5 (some .int) { frames := 2, cells := 0, slots := 0, locals := 50 } D L σ [.ref (L.1 (b + 0)), .int (nI w)] (PI L (fun r σ2 => r = nI (wtN A w) ∧ Cp σ σ2)) := by
  refine Ct.of (by decide) (Nat.le_of_ble_eq_true rfl) ?_
  intro X hl hD hnl hX0 hQ
  have hX : Ok X cX3_weightOf RX3 "weightOf" { frames := 2, cells := 0, slots := 0, locals := 50 } (some .int) := hX0
  have hN2 : 2 < xn X := by rw [hnl]; decide
  have hN3 : 3 < xn X := by rw [hnl]; decide
  have hN4 : 4 < xn X := by rw [hnl]; decide
  have hwf := hV.2.2.2.2.2.2.1 w hw
  have hpw := pwN_le A w
  have hbb := hC.2.2
  have hW24 := hV.2.2.1
  have hT6 := hV.1
  have hN12 := hV.2.1
  have hX14 := hV.2.2.2.1
  show At X L σ 0 0 [(0, .ref (L.1 (b + 0))), (1, .int (nI w))] 0 []
  rcases hO : lst A 0 (aX A).length with _ | x
  · skip
    refine r_aload_n hX dX3_weightOf_0 rfl ?_
    refine r_iconst hX (nI 0) dX3_weightOf_1 rfl ?_
    refine r_callVR (As := [.int (nI 0)]) (rest := []) hX (c_X3_lawOf0 b hC σ A h0 0 (by decide) hO) dX3_weightOf_2 cb_X3_79 (hC.1 0 (2, 0) rfl) rfl rfl ⟨Nat.le_of_ble_eq_true rfl, Nat.le_of_ble_eq_true rfl⟩ ⟨Nat.le_of_ble_eq_true rfl, Nat.le_of_ble_eq_true rfl⟩ (Nat.le_of_ble_eq_true rfl) ?_
    refine r_astore_nN hX [(0, .ref (L.1 (b + 0))), (1, .int (nI w)), (2, .null)] dX3_weightOf_5 hN2 rfl ?_
    refine r_aload_n hX dX3_weightOf_6 rfl ?_
    refine r_getR hX dX3_weightOf_7 fl_X3_31 (hC.1 0 (2, 0) rfl) rfl (hC.2.1 0 5 4 rfl) ?_
    refine r_getR hX dX3_weightOf_10 fl_X3_83 (hC.1 4 (7, 0) rfl) rfl (hC.2.1 4 4 12 rfl) ?_
    refine r_iload_n hX dX3_weightOf_13 rfl ?_
    refine r_aldN hX dX3_weightOf_14 (hC.1 12 (10, 24) rfl) (by decide) (by omega) (nI (aF A w 3)) (hW.2.2.2.2.1 w (by omega)) ?_
    refine r_istore_n hX [(0, .ref (L.1 (b + 0))), (1, .int (nI w)), (2, .null), (3, .int (nI (aF A w 3)))] dX3_weightOf_15 hN3 rfl ?_
    refine r_aload_nN hX dX3_weightOf_16 rfl ?_
    refine r_ifnonnullN hX dX3_weightOf_17 ?_
    refine r_iconst hX (nI 2) dX3_weightOf_20 rfl ?_
    refine r_goto hX dX3_weightOf_21 ?_
    refine r_istore hX [(0, .ref (L.1 (b + 0))), (1, .int (nI w)), (2, .null), (3, .int (nI (aF A w 3))), (4, .int (nI 2))] dX3_weightOf_56 hN4 rfl ?_
    refine r_aload_n hX dX3_weightOf_58 rfl ?_
    refine r_getR hX dX3_weightOf_59 fl_X3_31 (hC.1 0 (2, 0) rfl) rfl (hC.2.1 0 5 4 rfl) ?_
    refine r_getR hX dX3_weightOf_62 fl_X3_100 (hC.1 4 (7, 0) rfl) rfl (hC.2.1 4 1 9 rfl) ?_
    refine r_iload_n hX dX3_weightOf_65 rfl ?_
    refine r_aldN hX dX3_weightOf_66 (hC.1 9 (10, 24) rfl) (by decide) (by omega) (nI (aF A w 0)) (hW.2.1 w (by omega)) ?_
    refine r_iload hX dX3_weightOf_67 rfl ?_
    refine r_iload_n hX dX3_weightOf_69 rfl ?_
    refine r_callSF (As := [.int (nI (aF A w 0)), .int (nI 2), .int (nI (aF A w 3))]) (rest := []) hX (c_X1_weight σ (aF A w 0) 2 (aF A w 3) (by omega) (by first | omega | (have := hdN_le (evV (fW A w) (tx A x).2.2); omega)) (by omega)) dX3_weightOf_70 cb_X3_103 rfl rfl ⟨Nat.le_of_ble_eq_true rfl, Nat.le_of_ble_eq_true rfl⟩ ⟨Nat.le_of_ble_eq_true rfl, Nat.le_of_ble_eq_true rfl⟩ (Nat.le_of_ble_eq_true rfl) ?_
    exact r_ireturn hX hQ dX3_weightOf_73 ⟨Nat.le_of_ble_eq_true rfl, Nat.le_of_ble_eq_true rfl⟩ (PI.mk ⟨by unfold wtN pwN; rw [hO], (Cp.rf σ)⟩)
  · skip
    obtain ⟨hxl, hxk⟩ := lst_lt hO
    obtain ⟨o, ho1, ho3, ho, hx, hT⟩ := hTx x hxl
    have hok := okT_at hV hxl
    refine r_aload_n hX dX3_weightOf_0 rfl ?_
    refine r_iconst hX (nI 0) dX3_weightOf_1 rfl ?_
    refine r_callVR (As := [.int (nI 0)]) (rest := []) hX (c_X3_lawOf1 b hC σ A h0 0 x o (by decide) hO hX14 ho) dX3_weightOf_2 cb_X3_79 (hC.1 0 (2, 0) rfl) rfl rfl ⟨Nat.le_of_ble_eq_true rfl, Nat.le_of_ble_eq_true rfl⟩ ⟨Nat.le_of_ble_eq_true rfl, Nat.le_of_ble_eq_true rfl⟩ (Nat.le_of_ble_eq_true rfl) ?_
    refine r_astore_n hX [(0, .ref (L.1 (b + 0))), (1, .int (nI w)), (2, .ref (L.1 o))] dX3_weightOf_5 hN2 rfl ?_
    refine r_aload_n hX dX3_weightOf_6 rfl ?_
    refine r_getR hX dX3_weightOf_7 fl_X3_31 (hC.1 0 (2, 0) rfl) rfl (hC.2.1 0 5 4 rfl) ?_
    refine r_getR hX dX3_weightOf_10 fl_X3_83 (hC.1 4 (7, 0) rfl) rfl (hC.2.1 4 4 12 rfl) ?_
    refine r_iload_n hX dX3_weightOf_13 rfl ?_
    refine r_aldN hX dX3_weightOf_14 (hC.1 12 (10, 24) rfl) (by decide) (by omega) (nI (aF A w 3)) (hW.2.2.2.2.1 w (by omega)) ?_
    refine r_istore_n hX [(0, .ref (L.1 (b + 0))), (1, .int (nI w)), (2, .ref (L.1 o)), (3, .int (nI (aF A w 3)))] dX3_weightOf_15 hN3 rfl ?_
    refine r_aload_n hX dX3_weightOf_16 rfl ?_
    refine r_ifnonnull hX dX3_weightOf_17 ?_
    refine r_aload_n hX dX3_weightOf_24 rfl ?_
    refine r_aload_n hX dX3_weightOf_25 rfl ?_
    refine r_getR hX dX3_weightOf_26 fl_X3_31 (hC.1 0 (2, 0) rfl) rfl (hC.2.1 0 5 4 rfl) ?_
    refine r_getR hX dX3_weightOf_29 fl_X3_86 (hC.1 4 (7, 0) rfl) rfl (hC.2.1 4 5 13 rfl) ?_
    refine r_iload_n hX dX3_weightOf_32 rfl ?_
    refine r_aldN hX dX3_weightOf_33 (hC.1 13 (10, 24) rfl) (by decide) (by omega) (nI (aF A w 4)) (hW.2.2.2.2.2 w (by omega)) ?_
    refine r_iload_n hX dX3_weightOf_34 rfl ?_
    refine r_aload_n hX dX3_weightOf_35 rfl ?_
    refine r_getR hX dX3_weightOf_36 fl_X3_25 (hC.1 0 (2, 0) rfl) rfl (hC.2.1 0 4 3 rfl) ?_
    refine r_aload_n hX dX3_weightOf_39 rfl ?_
    refine r_getR hX dX3_weightOf_40 fl_X3_31 (hC.1 0 (2, 0) rfl) rfl (hC.2.1 0 5 4 rfl) ?_
    refine r_getR hX dX3_weightOf_43 fl_X3_89 (hC.1 4 (7, 0) rfl) rfl (hC.2.1 4 3 11 rfl) ?_
    refine r_iload_n hX dX3_weightOf_46 rfl ?_
    refine r_aldN hX dX3_weightOf_47 (hC.1 11 (10, 24) rfl) (by decide) (by omega) (nI (aF A w 2)) (hW.2.2.2.1 w (by omega)) ?_
    refine r_aldN hX dX3_weightOf_48 (hC.1 3 (10, 12) rfl) (by decide) (by omega) (nI (aE A (aF A w 2))) (h0.2.2.2.2.2.2.1 (aF A w 2) (by omega)) ?_
    refine r_iconst hX (nI 0) dX3_weightOf_49 rfl ?_
    refine r_callVI (As := [.int (nI (aF A w 4)), .int (nI (aF A w 3)), .int (nI (aE A (aF A w 2))), .int (nI 0)]) (rest := []) hX (c_X7_gives o (tx A x) hx hok σ hT (nI (aF A w 4)) (nI (aF A w 3)) (nI (aE A (aF A w 2))) (nI 0)) dX3_weightOf_50 cb_X3_92 hx.1 rfl rfl ⟨Nat.le_of_ble_eq_true rfl, Nat.le_of_ble_eq_true rfl⟩ ⟨Nat.le_of_ble_eq_true rfl, Nat.le_of_ble_eq_true rfl⟩ (Nat.le_of_ble_eq_true rfl) (fun r1 σ2 h3 => ?_)
    obtain ⟨hE5, hS4⟩ := h3
    replace hS4 := hS4.cp ho1 ho3
    rw [evV_cong hok (g := fW A w) (fun i hi => by rw [hxk] at hi ⊢; exact fW_f4 (Or.inl rfl) _ (fun e => by cases e) i hi)] at hE5
    subst hE5
    have g06 := R0.cs h0 hC hS4.cs
    have gW7 := RW.cs hW hC hS4.cs
    have gX8 := RX'.cs hTx hS4.cs
    refine r_callSF (As := [.int (evV (fW A w) (tx A x).2.2)]) (rest := []) hX (c_X3_held σ2 (evV (fW A w) (tx A x).2.2)) dX3_weightOf_53 cb_X3_96 rfl rfl ⟨Nat.le_of_ble_eq_true rfl, Nat.le_of_ble_eq_true rfl⟩ ⟨Nat.le_of_ble_eq_true rfl, Nat.le_of_ble_eq_true rfl⟩ (Nat.le_of_ble_eq_true rfl) ?_
    refine r_istore hX [(0, .ref (L.1 (b + 0))), (1, .int (nI w)), (2, .ref (L.1 o)), (3, .int (nI (aF A w 3))), (4, .int (nI (hdN (evV (fW A w) (tx A x).2.2))))] dX3_weightOf_56 hN4 rfl ?_
    refine r_aload_n hX dX3_weightOf_58 rfl ?_
    refine r_getR hX dX3_weightOf_59 fl_X3_31 (hC.1 0 (2, 0) rfl) rfl (hC.2.1 0 5 4 rfl) ?_
    refine r_getR hX dX3_weightOf_62 fl_X3_100 (hC.1 4 (7, 0) rfl) rfl (hC.2.1 4 1 9 rfl) ?_
    refine r_iload_n hX dX3_weightOf_65 rfl ?_
    refine r_aldN hX dX3_weightOf_66 (hC.1 9 (10, 24) rfl) (by decide) (by omega) (nI (aF A w 0)) (gW7.2.1 w (by omega)) ?_
    refine r_iload hX dX3_weightOf_67 rfl ?_
    refine r_iload_n hX dX3_weightOf_69 rfl ?_
    refine r_callSF (As := [.int (nI (aF A w 0)), .int (nI (hdN (evV (fW A w) (tx A x).2.2))), .int (nI (aF A w 3))]) (rest := []) hX (c_X1_weight σ2 (aF A w 0) (hdN (evV (fW A w) (tx A x).2.2)) (aF A w 3) (by omega) (by first | omega | (have := hdN_le (evV (fW A w) (tx A x).2.2); omega)) (by omega)) dX3_weightOf_70 cb_X3_103 rfl rfl ⟨Nat.le_of_ble_eq_true rfl, Nat.le_of_ble_eq_true rfl⟩ ⟨Nat.le_of_ble_eq_true rfl, Nat.le_of_ble_eq_true rfl⟩ (Nat.le_of_ble_eq_true rfl) ?_
    exact r_ireturn hX hQ dX3_weightOf_73 ⟨Nat.le_of_ble_eq_true rfl, Nat.le_of_ble_eq_true rfl⟩ (PI.mk ⟨by unfold wtN pwN; rw [hO], (Cp.tr (Cp.rf σ) hS4)⟩)

set_option maxHeartbeats 4000000 in
set_option maxRecDepth 100000 in
theorem c_X3_signOf {l : Launch} {D : Ds} {L : La}  (b : Nat) (hC : RAt L b) (σ : Me) (A : Al) (h0 : R0 σ b A) (hW : RW σ b A) (hTx : RX' L σ b A) (hV : Va A) (w : Nat) (hw : w < aW A) : Ct l yX3_signOf cX3_signOf 4 (some .int) { frames := 2, cells := 0, slots := 0, locals := 50 } D L σ [.ref (L.1 (b + 0)), .int (nI w)] (PI L (fun r σ2 => r = nI (sgN A w) ∧ Cp σ σ2)) := by
  refine Ct.of (by decide) (Nat.le_of_ble_eq_true rfl) ?_
  intro X hl hD hnl hX0 hQ
  have hX : Ok X cX3_signOf RX3 "signOf" { frames := 2, cells := 0, slots := 0, locals := 50 } (some .int) := hX0
  have hN2 : 2 < xn X := by rw [hnl]; decide
  have hN3 : 3 < xn X := by rw [hnl]; decide
  have hwf := hV.2.2.2.2.2.2.1 w hw
  have hpw := pwN_le A w
  have hbb := hC.2.2
  have hW24 := hV.2.2.1
  have hT6 := hV.1
  have hN12 := hV.2.1
  have hX14 := hV.2.2.2.1
  show At X L σ 0 0 [(0, .ref (L.1 (b + 0))), (1, .int (nI w))] 0 []
  rcases hO : lst A 1 (aX A).length with _ | x
  · skip
    refine r_aload_n hX dX3_signOf_0 rfl ?_
    refine r_iconst hX (nI 1) dX3_signOf_1 rfl ?_
    refine r_callVR (As := [.int (nI 1)]) (rest := []) hX (c_X3_lawOf0 b hC σ A h0 1 (by decide) hO) dX3_signOf_2 cb_X3_79 (hC.1 0 (2, 0) rfl) rfl rfl ⟨Nat.le_of_ble_eq_true rfl, Nat.le_of_ble_eq_true rfl⟩ ⟨Nat.le_of_ble_eq_true rfl, Nat.le_of_ble_eq_true rfl⟩ (Nat.le_of_ble_eq_true rfl) ?_
    refine r_astore_nN hX [(0, .ref (L.1 (b + 0))), (1, .int (nI w)), (2, .null)] dX3_signOf_5 hN2 rfl ?_
    refine r_aload_nN hX dX3_signOf_6 rfl ?_
    refine r_ifnonnullN hX dX3_signOf_7 ?_
    refine r_iconst hX (nI 0) dX3_signOf_10 rfl ?_
    exact r_ireturn hX hQ dX3_signOf_11 ⟨Nat.le_of_ble_eq_true rfl, Nat.le_of_ble_eq_true rfl⟩ (PI.mk ⟨by unfold sgN; rw [hO], (Cp.rf σ)⟩)
  · skip
    obtain ⟨hxl, hxk⟩ := lst_lt hO
    obtain ⟨o, ho1, ho3, ho, hx, hT⟩ := hTx x hxl
    have hok := okT_at hV hxl
    refine r_aload_n hX dX3_signOf_0 rfl ?_
    refine r_iconst hX (nI 1) dX3_signOf_1 rfl ?_
    refine r_callVR (As := [.int (nI 1)]) (rest := []) hX (c_X3_lawOf1 b hC σ A h0 1 x o (by decide) hO hX14 ho) dX3_signOf_2 cb_X3_79 (hC.1 0 (2, 0) rfl) rfl rfl ⟨Nat.le_of_ble_eq_true rfl, Nat.le_of_ble_eq_true rfl⟩ ⟨Nat.le_of_ble_eq_true rfl, Nat.le_of_ble_eq_true rfl⟩ (Nat.le_of_ble_eq_true rfl) ?_
    refine r_astore_n hX [(0, .ref (L.1 (b + 0))), (1, .int (nI w)), (2, .ref (L.1 o))] dX3_signOf_5 hN2 rfl ?_
    refine r_aload_n hX dX3_signOf_6 rfl ?_
    refine r_ifnonnull hX dX3_signOf_7 ?_
    refine r_aload_n hX dX3_signOf_12 rfl ?_
    refine r_getR hX dX3_signOf_13 fl_X3_31 (hC.1 0 (2, 0) rfl) rfl (hC.2.1 0 5 4 rfl) ?_
    refine r_getR hX dX3_signOf_16 fl_X3_89 (hC.1 4 (7, 0) rfl) rfl (hC.2.1 4 3 11 rfl) ?_
    refine r_iload_n hX dX3_signOf_19 rfl ?_
    refine r_aldN hX dX3_signOf_20 (hC.1 11 (10, 24) rfl) (by decide) (by omega) (nI (aF A w 2)) (hW.2.2.2.1 w (by omega)) ?_
    refine r_istore_n hX [(0, .ref (L.1 (b + 0))), (1, .int (nI w)), (2, .ref (L.1 o)), (3, .int (nI (aF A w 2)))] dX3_signOf_21 hN3 rfl ?_
    refine r_aload_n hX dX3_signOf_22 rfl ?_
    refine r_aload_n hX dX3_signOf_23 rfl ?_
    refine r_getR hX dX3_signOf_24 fl_X3_31 (hC.1 0 (2, 0) rfl) rfl (hC.2.1 0 5 4 rfl) ?_
    refine r_getR hX dX3_signOf_27 fl_X3_86 (hC.1 4 (7, 0) rfl) rfl (hC.2.1 4 5 13 rfl) ?_
    refine r_iload_n hX dX3_signOf_30 rfl ?_
    refine r_aldN hX dX3_signOf_31 (hC.1 13 (10, 24) rfl) (by decide) (by omega) (nI (aF A w 4)) (hW.2.2.2.2.2 w (by omega)) ?_
    refine r_aload_n hX dX3_signOf_32 rfl ?_
    refine r_getR hX dX3_signOf_33 fl_X3_31 (hC.1 0 (2, 0) rfl) rfl (hC.2.1 0 5 4 rfl) ?_
    refine r_getR hX dX3_signOf_36 fl_X3_83 (hC.1 4 (7, 0) rfl) rfl (hC.2.1 4 4 12 rfl) ?_
    refine r_iload_n hX dX3_signOf_39 rfl ?_
    refine r_aldN hX dX3_signOf_40 (hC.1 12 (10, 24) rfl) (by decide) (by omega) (nI (aF A w 3)) (hW.2.2.2.2.1 w (by omega)) ?_
    refine r_aload_n hX dX3_signOf_41 rfl ?_
    refine r_getR hX dX3_signOf_42 fl_X3_25 (hC.1 0 (2, 0) rfl) rfl (hC.2.1 0 4 3 rfl) ?_
    refine r_iload_n hX dX3_signOf_45 rfl ?_
    refine r_aldN hX dX3_signOf_46 (hC.1 3 (10, 12) rfl) (by decide) (by omega) (nI (aE A (aF A w 2))) (h0.2.2.2.2.2.2.1 (aF A w 2) (by omega)) ?_
    refine r_aload_n hX dX3_signOf_47 rfl ?_
    refine r_getR hX dX3_signOf_48 fl_X3_31 (hC.1 0 (2, 0) rfl) rfl (hC.2.1 0 5 4 rfl) ?_
    refine r_iload_n hX dX3_signOf_51 rfl ?_
    refine r_callVF (As := [.int (nI (aF A w 2))]) (rest := [.int (nI (aE A (aF A w 2))), .int (nI (aF A w 3)), .int (nI (aF A w 4)), .ref (L.1 o)]) hX (c_X8_countBy b hC σ A hW hV (aF A w 2) (by omega)) dX3_signOf_52 cb_X3_109 (hC.1 4 (7, 0) rfl) rfl rfl ⟨Nat.le_of_ble_eq_true rfl, Nat.le_of_ble_eq_true rfl⟩ ⟨Nat.le_of_ble_eq_true rfl, Nat.le_of_ble_eq_true rfl⟩ (Nat.le_of_ble_eq_true rfl) ?_
    refine r_callVI (As := [.int (nI (aF A w 4)), .int (nI (aF A w 3)), .int (nI (aE A (aF A w 2))), .int (nI (cw A 2 (aF A w 2) (aW A)))]) (rest := []) hX (c_X7_gives o (tx A x) hx hok σ hT (nI (aF A w 4)) (nI (aF A w 3)) (nI (aE A (aF A w 2))) (nI (cw A 2 (aF A w 2) (aW A)))) dX3_signOf_55 cb_X3_92 hx.1 rfl rfl ⟨Nat.le_of_ble_eq_true rfl, Nat.le_of_ble_eq_true rfl⟩ ⟨Nat.le_of_ble_eq_true rfl, Nat.le_of_ble_eq_true rfl⟩ (Nat.le_of_ble_eq_true rfl) (fun r1 σ2 h3 => ?_)
    obtain ⟨hE5, hS4⟩ := h3
    replace hS4 := hS4.cp ho1 ho3
    rw [evV_cong hok (g := fW A w) (fun i hi => by rw [hxk] at hi ⊢; exact fW_f4 (Or.inr rfl) _ (fun _ => rfl) i hi)] at hE5
    subst hE5
    have g06 := R0.cs h0 hC hS4.cs
    have gW7 := RW.cs hW hC hS4.cs
    have gX8 := RX'.cs hTx hS4.cs
    refine r_callSF (As := [.int (evV (fW A w) (tx A x).2.2)]) (rest := []) hX (c_X3_held σ2 (evV (fW A w) (tx A x).2.2)) dX3_signOf_58 cb_X3_96 rfl rfl ⟨Nat.le_of_ble_eq_true rfl, Nat.le_of_ble_eq_true rfl⟩ ⟨Nat.le_of_ble_eq_true rfl, Nat.le_of_ble_eq_true rfl⟩ (Nat.le_of_ble_eq_true rfl) ?_
    exact r_ireturn hX hQ dX3_signOf_61 ⟨Nat.le_of_ble_eq_true rfl, Nat.le_of_ble_eq_true rfl⟩ (PI.mk ⟨by unfold sgN; rw [hO], (Cp.tr (Cp.rf σ) hS4)⟩)
