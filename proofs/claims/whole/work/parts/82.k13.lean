set_option maxHeartbeats 4000000 in
set_option maxRecDepth 100000 in
theorem c_X9_alike {l : Launch} {D : Ds} {L : La}  (hA : CAt L) (σ : Me) (A : Al) (h0 : R0 σ 200 A) (hW : RW σ 200 A) (hTx : RX' L σ 200 A) (hV : Va A) (x y v : Int32) : Ct l yX9_alike cX9_alike 5 (some .int) { frames := 3, cells := 0, slots := 0, locals := 70 } D L σ [.ref (L.1 100), .int x, .int y, .int v] (PF L σ (oAlike A x y v)) := by
  refine Ct.of (by decide) (Nat.le_of_ble_eq_true rfl) ?_
  intro X hl hD hnl hX0 hQ
  have hX : Ok X cX9_alike RX9 "alike" { frames := 3, cells := 0, slots := 0, locals := 70 } (some .int) := hX0
  have hN4 : 4 < xn X := by rw [hnl]; decide
  have hC := hA.2.2
  have hbb := hC.2.2
  have hW24 := hV.2.2.1
  have hT6 := hV.1
  have hN12 := hV.2.1
  have hX14 := hV.2.2.2.1
  show At X L σ 0 0 [(0, .ref (L.1 100)), (1, .int x), (2, .int y), (3, .int v)] 0 []
  refine r_aload_n hX dX9_alike_0 rfl ?_
  refine r_getR hX dX9_alike_1 fl_X9_10 (hA.1 100 (8, 0) rfl) rfl (hA.2.1 100 0 200 rfl) ?_
  refine r_getIV hX dX9_alike_4 fl_X9_107 (hC.1 0 (2, 0) rfl) rfl (nI (aN A)) h0.2.1 ?_
  refine r_iconst hX (nI 1) dX9_alike_7 rfl ?_
  refine r_isub hX dX9_alike_8 ?_
  refine r_istore hX [(0, .ref (L.1 100)), (1, .int x), (2, .int y), (3, .int v), (4, .int ((nI (aN A)) - (nI 1)))] dX9_alike_9 hN4 rfl ?_
  refine r_iload_n hX dX9_alike_11 rfl ?_
  refine r_iconst hX (nI 0) dX9_alike_12 rfl ?_
  refine r_iload hX dX9_alike_13 rfl ?_
  refine r_callSF (As := [.int x, .int (nI 0), .int ((nI (aN A)) - (nI 1))]) (rest := []) hX (c_X9_within σ x (nI 0) ((nI (aN A)) - (nI 1))) dX9_alike_15 cb_X9_67 rfl rfl ⟨Nat.le_of_ble_eq_true rfl, Nat.le_of_ble_eq_true rfl⟩ ⟨Nat.le_of_ble_eq_true rfl, Nat.le_of_ble_eq_true rfl⟩ (Nat.le_of_ble_eq_true rfl) ?_
  refine r_ifB_eq hX dX9_alike_18 (fun c1 => ?_) (fun c1 => ?_)
  · skip
    refine r_ldc hX dX9_alike_43 ko_X9_75 ?_
    exact r_ireturn hX hQ dX9_alike_45 ⟨Nat.le_of_ble_eq_true rfl, Nat.le_of_ble_eq_true rfl⟩ (PF.mk (by rw [oAlike, if_neg (fun e => by have e := e.1; unfold isB at e; rw [c1] at e; cases e)]))
  · skip
    obtain ⟨p, hp, rfl⟩ := isB_nat (n := aN A) c1 (by omega)
    refine r_iload_n hX dX9_alike_21 rfl ?_
    refine r_iconst hX (nI 0) dX9_alike_22 rfl ?_
    refine r_iload hX dX9_alike_23 rfl ?_
    refine r_callSF (As := [.int y, .int (nI 0), .int ((nI (aN A)) - (nI 1))]) (rest := []) hX (c_X9_within σ y (nI 0) ((nI (aN A)) - (nI 1))) dX9_alike_25 cb_X9_67 rfl rfl ⟨Nat.le_of_ble_eq_true rfl, Nat.le_of_ble_eq_true rfl⟩ ⟨Nat.le_of_ble_eq_true rfl, Nat.le_of_ble_eq_true rfl⟩ (Nat.le_of_ble_eq_true rfl) ?_
    refine r_ifB_eq hX dX9_alike_28 (fun c2 => ?_) (fun c2 => ?_)
    · skip
      refine r_ldc hX dX9_alike_43 ko_X9_75 ?_
      exact r_ireturn hX hQ dX9_alike_45 ⟨Nat.le_of_ble_eq_true rfl, Nat.le_of_ble_eq_true rfl⟩ (PF.mk (by rw [oAlike, if_neg (fun e => by have e := e.2.1; unfold isB at e; rw [c2] at e; cases e)]))
    · skip
      obtain ⟨r, hr, rfl⟩ := isB_nat (n := aN A) c2 (by omega)
      refine r_iload_n hX dX9_alike_31 rfl ?_
      refine r_iload_n hX dX9_alike_32 rfl ?_
      refine r_icmpN_eq hX dX9_alike_33 (by omega) (by omega) (fun c3 => ?_) (fun c3 => ?_)
      · skip
        refine r_ldc hX dX9_alike_43 ko_X9_75 ?_
        exact r_ireturn hX hQ dX9_alike_45 ⟨Nat.le_of_ble_eq_true rfl, Nat.le_of_ble_eq_true rfl⟩ (PF.mk (by rw [oAlike, if_neg (fun e => e.2.2.1 (by rw [c3]))]))
      · skip
        refine r_iload_n hX dX9_alike_36 rfl ?_
        refine r_callSF (As := [.int v]) (rest := []) hX (c_X9_isHour σ v) dX9_alike_37 cb_X9_101 rfl rfl ⟨Nat.le_of_ble_eq_true rfl, Nat.le_of_ble_eq_true rfl⟩ ⟨Nat.le_of_ble_eq_true rfl, Nat.le_of_ble_eq_true rfl⟩ (Nat.le_of_ble_eq_true rfl) ?_
        refine r_ifB_ne hX dX9_alike_40 (fun c4 => ?_) (fun c4 => ?_)
        · skip
          obtain ⟨u, hul, hu, rfl⟩ := inB_nat c4 (by decide) (by decide)
          refine r_aload_n hX dX9_alike_46 rfl ?_
          refine r_getR hX dX9_alike_47 fl_X9_10 (hA.1 100 (8, 0) rfl) rfl (hA.2.1 100 0 200 rfl) ?_
          refine r_getR hX dX9_alike_50 fl_X9_86 (hC.1 0 (2, 0) rfl) rfl (hC.2.1 0 5 4 rfl) ?_
          refine r_iload_n hX dX9_alike_53 rfl ?_
          refine r_iload_n hX dX9_alike_54 rfl ?_
          refine r_iload_n hX dX9_alike_55 rfl ?_
          refine r_callVF (As := [.int (nI p), .int (nI r), .int (nI u)]) (rest := []) hX (c_X8_timesAlike 200 hC σ A hW hV p r u (by omega) (by omega) (by omega)) dX9_alike_56 cb_X9_199 (hC.1 4 (7, 0) rfl) rfl rfl ⟨Nat.le_of_ble_eq_true rfl, Nat.le_of_ble_eq_true rfl⟩ ⟨Nat.le_of_ble_eq_true rfl, Nat.le_of_ble_eq_true rfl⟩ (Nat.le_of_ble_eq_true rfl) ?_
          exact r_ireturn hX hQ dX9_alike_59 ⟨Nat.le_of_ble_eq_true rfl, Nat.le_of_ble_eq_true rfl⟩ (PF.mk (by rw [oAlike, if_pos ⟨show isB _ _ = true from c1, show isB _ _ = true from c2, (fun e => c3 ((nI_eq (by omega) (by omega)).mp e)), c4⟩, nI_clamp (by omega), nI_clamp (by omega), nI_clamp (by omega)]))
        · skip
          refine r_ldc hX dX9_alike_43 ko_X9_75 ?_
          exact r_ireturn hX hQ dX9_alike_45 ⟨Nat.le_of_ble_eq_true rfl, Nat.le_of_ble_eq_true rfl⟩ (PF.mk (by rw [oAlike, if_neg (fun e => by have e := e.2.2.2; rw [c4] at e; cases e)]))

set_option maxHeartbeats 4000000 in
set_option maxRecDepth 100000 in
theorem c_X9_group {l : Launch} {D : Ds} {L : La}  (hA : CAt L) (σ : Me) (A : Al) (h0 : R0 σ 200 A) (hW : RW σ 200 A) (hTx : RX' L σ 200 A) (hV : Va A) (k v : Int32) : Ct l yX9_group cX9_group 3 (some .int) { frames := 5, cells := 0, slots := 0, locals := 120 } D L σ [.ref (L.1 100), .int k, .int v] (PI L (fun r σ2 => r = oGroup A k v ∧ Cs σ σ2)) := by
  refine Ct.of (by decide) (Nat.le_of_ble_eq_true rfl) ?_
  intro X hl hD hnl hX0 hQ
  have hX : Ok X cX9_group RX9 "group" { frames := 5, cells := 0, slots := 0, locals := 120 } (some .int) := hX0
  have hC := hA.2.2
  have hbb := hC.2.2
  have hW24 := hV.2.2.1
  have hT6 := hV.1
  have hN12 := hV.2.1
  have hX14 := hV.2.2.2.1
  show At X L σ 0 0 [(0, .ref (L.1 100)), (1, .int k), (2, .int v)] 0 []
  refine r_iload_n hX dX9_group_0 rfl ?_
  refine r_iconst hX (nI 1) dX9_group_1 rfl ?_
  refine r_bipush hX (nI 6) dX9_group_2 rfl ?_
  refine r_callSF (As := [.int k, .int (nI 1), .int (nI 6)]) (rest := []) hX (c_X9_within σ k (nI 1) (nI 6)) dX9_group_4 cb_X9_67 rfl rfl ⟨Nat.le_of_ble_eq_true rfl, Nat.le_of_ble_eq_true rfl⟩ ⟨Nat.le_of_ble_eq_true rfl, Nat.le_of_ble_eq_true rfl⟩ (Nat.le_of_ble_eq_true rfl) ?_
  refine r_ifB_eq hX dX9_group_7 (fun c1 => ?_) (fun c1 => ?_)
  · skip
    refine r_ldc hX dX9_group_17 ko_X9_75 ?_
    exact r_ireturn hX hQ dX9_group_19 ⟨Nat.le_of_ble_eq_true rfl, Nat.le_of_ble_eq_true rfl⟩ (PI.mk ⟨by rw [oGroup, if_neg (fun e => by have e := e.1; rw [c1] at e; cases e)], (Cs.rf σ)⟩)
  · skip
    obtain ⟨q, hql, hq, rfl⟩ := inB_nat c1 (by decide) (by decide)
    refine r_iload_n hX dX9_group_10 rfl ?_
    refine r_callSF (As := [.int v]) (rest := []) hX (c_X9_isHour σ v) dX9_group_11 cb_X9_101 rfl rfl ⟨Nat.le_of_ble_eq_true rfl, Nat.le_of_ble_eq_true rfl⟩ ⟨Nat.le_of_ble_eq_true rfl, Nat.le_of_ble_eq_true rfl⟩ (Nat.le_of_ble_eq_true rfl) ?_
    refine r_ifB_ne hX dX9_group_14 (fun c2 => ?_) (fun c2 => ?_)
    · skip
      obtain ⟨y, hyl, hy, rfl⟩ := inB_nat c2 (by decide) (by decide)
      refine r_aload_n hX dX9_group_20 rfl ?_
      refine r_getR hX dX9_group_21 fl_X9_19 (hA.1 100 (8, 0) rfl) rfl (hA.2.1 100 1 101 rfl) ?_
      refine r_aload_n hX dX9_group_24 rfl ?_
      refine r_getR hX dX9_group_25 fl_X9_10 (hA.1 100 (8, 0) rfl) rfl (hA.2.1 100 0 200 rfl) ?_
      refine r_iload_n hX dX9_group_28 rfl ?_
      refine r_iload_n hX dX9_group_29 rfl ?_
      refine r_callVI (As := [.ref (L.1 (200 + 0)), .int (nI q), .int (nI y)]) (rest := []) hX (c_X0_greatest hA.g 200 hC σ A h0 hW hTx hV q y (by omega) (by omega)) dX9_group_30 cb_X9_203 (hA.1 101 (0, 0) rfl) rfl rfl ⟨Nat.le_of_ble_eq_true rfl, Nat.le_of_ble_eq_true rfl⟩ ⟨Nat.le_of_ble_eq_true rfl, Nat.le_of_ble_eq_true rfl⟩ (Nat.le_of_ble_eq_true rfl) (fun r3 σ4 h5 => ?_)
      obtain ⟨rfl, hS6⟩ := h5
      have g07 := R0.cs h0 hC hS6
      have gW8 := RW.cs hW hC hS6
      have gX9 := RX'.cs hTx hS6
      exact r_ireturn hX hQ dX9_group_33 ⟨Nat.le_of_ble_eq_true rfl, Nat.le_of_ble_eq_true rfl⟩ (PI.mk ⟨by rw [oGroup, if_pos ⟨c1, c2⟩, nI_clamp (by omega), nI_clamp (by omega)], (Cs.tr (Cs.rf σ) hS6)⟩)
    · skip
      refine r_ldc hX dX9_group_17 ko_X9_75 ?_
      exact r_ireturn hX hQ dX9_group_19 ⟨Nat.le_of_ble_eq_true rfl, Nat.le_of_ble_eq_true rfl⟩ (PI.mk ⟨by rw [oGroup, if_neg (fun e => by have e := e.2; rw [c2] at e; cases e)], (Cs.rf σ)⟩)

set_option maxHeartbeats 4000000 in
set_option maxRecDepth 100000 in
theorem c_X9_wave {l : Launch} {D : Ds} {L : La}  (hA : CAt L) (σ : Me) (A : Al) (h0 : R0 σ 200 A) (hW : RW σ 200 A) (hTx : RX' L σ 200 A) (hV : Va A) (v wh : Int32) : Ct l yX9_wave cX9_wave 4 (some .int) { frames := 2, cells := 0, slots := 0, locals := 50 } D L σ [.ref (L.1 100), .int v, .int wh] (PF L σ (oWave A v wh)) := by
  refine Ct.of (by decide) (Nat.le_of_ble_eq_true rfl) ?_
  intro X hl hD hnl hX0 hQ
  have hX : Ok X cX9_wave RX9 "wave" { frames := 2, cells := 0, slots := 0, locals := 50 } (some .int) := hX0
  have hN3 : 3 < xn X := by rw [hnl]; decide
  have hC := hA.2.2
  have hbb := hC.2.2
  have hW24 := hV.2.2.1
  have hT6 := hV.1
  have hN12 := hV.2.1
  have hX14 := hV.2.2.2.1
  show At X L σ 0 0 [(0, .ref (L.1 100)), (1, .int v), (2, .int wh)] 0 []
  refine r_iload_n hX dX9_wave_0 rfl ?_
  refine r_iconst hX (nI 1) dX9_wave_1 rfl ?_
  refine r_sipush hX (nI 1000) dX9_wave_2 rfl ?_
  refine r_callSF (As := [.int v, .int (nI 1), .int (nI 1000)]) (rest := []) hX (c_X9_within σ v (nI 1) (nI 1000)) dX9_wave_5 cb_X9_67 rfl rfl ⟨Nat.le_of_ble_eq_true rfl, Nat.le_of_ble_eq_true rfl⟩ ⟨Nat.le_of_ble_eq_true rfl, Nat.le_of_ble_eq_true rfl⟩ (Nat.le_of_ble_eq_true rfl) ?_
  refine r_ifB_eq hX dX9_wave_8 (fun c1 => ?_) (fun c1 => ?_)
  · skip
    refine r_ldc hX dX9_wave_20 ko_X9_75 ?_
    exact r_ireturn hX hQ dX9_wave_22 ⟨Nat.le_of_ble_eq_true rfl, Nat.le_of_ble_eq_true rfl⟩ (PF.mk (by rw [oWave, if_neg (fun e => by have e := e.1; rw [c1] at e; cases e)]))
  · skip
    obtain ⟨q, hql, hq, rfl⟩ := inB_nat c1 (by decide) (by decide)
    refine r_iload_n hX dX9_wave_11 rfl ?_
    refine r_iconst hX (nI 0) dX9_wave_12 rfl ?_
    refine r_iconst hX (nI 1) dX9_wave_13 rfl ?_
    refine r_callSF (As := [.int wh, .int (nI 0), .int (nI 1)]) (rest := []) hX (c_X9_within σ wh (nI 0) (nI 1)) dX9_wave_14 cb_X9_67 rfl rfl ⟨Nat.le_of_ble_eq_true rfl, Nat.le_of_ble_eq_true rfl⟩ ⟨Nat.le_of_ble_eq_true rfl, Nat.le_of_ble_eq_true rfl⟩ (Nat.le_of_ble_eq_true rfl) ?_
    refine r_ifB_ne hX dX9_wave_17 (fun c2 => ?_) (fun c2 => ?_)
    · skip
      obtain ⟨r, hrl, hr, rfl⟩ := inB_nat c2 (by decide) (by decide)
      refine r_aload_n hX dX9_wave_23 rfl ?_
      refine r_getR hX dX9_wave_24 fl_X9_10 (hA.1 100 (8, 0) rfl) rfl (hA.2.1 100 0 200 rfl) ?_
      refine r_getR hX dX9_wave_27 fl_X9_86 (hC.1 0 (2, 0) rfl) rfl (hC.2.1 0 5 4 rfl) ?_
      refine r_getIV hX dX9_wave_30 fl_X9_176 (hC.1 4 (7, 0) rfl) rfl (nI (aW A)) hW.1 ?_
      refine r_ifN_ne hX dX9_wave_33 (by omega) (fun c3 => ?_) (fun c3 => ?_)
      · skip
        refine r_aload_n hX dX9_wave_39 rfl ?_
        refine r_getR hX dX9_wave_40 fl_X9_10 (hA.1 100 (8, 0) rfl) rfl (hA.2.1 100 0 200 rfl) ?_
        refine r_getR hX dX9_wave_43 fl_X9_86 (hC.1 0 (2, 0) rfl) rfl (hC.2.1 0 5 4 rfl) ?_
        refine r_iload_n hX dX9_wave_46 rfl ?_
        refine r_callVF (As := [.int (nI q)]) (rest := []) hX (c_X8_waveFrom 200 hC σ A hW hV q (by omega) (by omega) (by omega)) dX9_wave_47 cb_X9_207 (hC.1 4 (7, 0) rfl) rfl rfl ⟨Nat.le_of_ble_eq_true rfl, Nat.le_of_ble_eq_true rfl⟩ ⟨Nat.le_of_ble_eq_true rfl, Nat.le_of_ble_eq_true rfl⟩ (Nat.le_of_ble_eq_true rfl) ?_
        refine r_istore_n hX [(0, .ref (L.1 100)), (1, .int (nI q)), (2, .int (nI r)), (3, .int (nI (wvN A q 999)))] dX9_wave_50 hN3 rfl ?_
        refine r_iload_n hX dX9_wave_51 rfl ?_
        refine r_ifN_ne hX dX9_wave_52 (by omega) (fun c4 => ?_) (fun c4 => ?_)
        · skip
          refine r_aload_n hX dX9_wave_59 rfl ?_
          refine r_getR hX dX9_wave_60 fl_X9_10 (hA.1 100 (8, 0) rfl) rfl (hA.2.1 100 0 200 rfl) ?_
          refine r_getR hX dX9_wave_63 fl_X9_86 (hC.1 0 (2, 0) rfl) rfl (hC.2.1 0 5 4 rfl) ?_
          refine r_iload_n hX dX9_wave_66 rfl ?_
          refine r_iload_n hX dX9_wave_67 rfl ?_
          refine r_callVF (As := [.int (nI (wvN A q 999)), .int (nI q)]) (rest := []) hX (c_X8_countWithin 200 hC σ A hW hV (wvN A q 999) q (by have := wvN_le A q 999; omega) (by omega)) dX9_wave_68 cb_X9_210 (hC.1 4 (7, 0) rfl) rfl rfl ⟨Nat.le_of_ble_eq_true rfl, Nat.le_of_ble_eq_true rfl⟩ ⟨Nat.le_of_ble_eq_true rfl, Nat.le_of_ble_eq_true rfl⟩ (Nat.le_of_ble_eq_true rfl) ?_
          exact r_ireturn hX hQ dX9_wave_71 ⟨Nat.le_of_ble_eq_true rfl, Nat.le_of_ble_eq_true rfl⟩ (PF.mk (by rw [oWave, if_pos ⟨c1, c2⟩, if_neg c3, if_neg (by rw [show r = 1 by omega]; decide), nI_clamp (by omega)]))
        · skip
          refine r_iload_n hX dX9_wave_55 rfl ?_
          refine r_goto hX dX9_wave_56 ?_
          exact r_ireturn hX hQ dX9_wave_71 ⟨Nat.le_of_ble_eq_true rfl, Nat.le_of_ble_eq_true rfl⟩ (PF.mk (by rw [oWave, if_pos ⟨c1, c2⟩, if_neg c3, if_pos (by rw [show r = 0 by omega]), nI_clamp (by omega)]))
      · skip
        refine r_ldc hX dX9_wave_36 ko_X9_195 ?_
        exact r_ireturn hX hQ dX9_wave_38 ⟨Nat.le_of_ble_eq_true rfl, Nat.le_of_ble_eq_true rfl⟩ (PF.mk (by rw [oWave, if_pos ⟨c1, c2⟩, if_pos c3]))
    · skip
      refine r_ldc hX dX9_wave_20 ko_X9_75 ?_
      exact r_ireturn hX hQ dX9_wave_22 ⟨Nat.le_of_ble_eq_true rfl, Nat.le_of_ble_eq_true rfl⟩ (PF.mk (by rw [oWave, if_neg (fun e => by have e := e.2; rw [c2] at e; cases e)]))

set_option maxHeartbeats 4000000 in
set_option maxRecDepth 100000 in
theorem c_X9_changed {l : Launch} {D : Ds} {L : La}  (hA : CAt L) (σ : Me) (A : Al) (h0 : R0 σ 200 A) (hW : RW σ 200 A) (hTx : RX' L σ 200 A) (hV : Va A) (th wh : Int32) : Ct l yX9_changed cX9_changed 4 (some .int) { frames := 3, cells := 0, slots := 0, locals := 73 } D L σ [.ref (L.1 100), .int th, .int wh] (PF L σ (oChanged A th wh)) := by
  refine Ct.of (by decide) (Nat.le_of_ble_eq_true rfl) ?_
  intro X hl hD hnl hX0 hQ
  have hX : Ok X cX9_changed RX9 "changed" { frames := 3, cells := 0, slots := 0, locals := 73 } (some .int) := hX0
  have hN3 : 3 < xn X := by rw [hnl]; decide
  have hC := hA.2.2
  have hbb := hC.2.2
  have hW24 := hV.2.2.1
  have hT6 := hV.1
  have hN12 := hV.2.1
  have hX14 := hV.2.2.2.1
  show At X L σ 0 0 [(0, .ref (L.1 100)), (1, .int th), (2, .int wh)] 0 []
  refine r_aload_n hX dX9_changed_0 rfl ?_
  refine r_iload_n hX dX9_changed_1 rfl ?_
  refine r_callVF (As := [.int th]) (rest := []) hX (c_X9_isThing hA σ A h0 hW hTx hV th) dX9_changed_2 cb_X9_76 (hA.1 100 (8, 0) rfl) rfl rfl ⟨Nat.le_of_ble_eq_true rfl, Nat.le_of_ble_eq_true rfl⟩ ⟨Nat.le_of_ble_eq_true rfl, Nat.le_of_ble_eq_true rfl⟩ (Nat.le_of_ble_eq_true rfl) ?_
  refine r_ifB_eq hX dX9_changed_5 (fun c1 => ?_) (fun c1 => ?_)
  · skip
    refine r_ldc hX dX9_changed_17 ko_X9_75 ?_
    exact r_ireturn hX hQ dX9_changed_19 ⟨Nat.le_of_ble_eq_true rfl, Nat.le_of_ble_eq_true rfl⟩ (PF.mk (by rw [oChanged, if_neg (fun e => by have e := e.1; rw [c1] at e; cases e)]))
  · skip
    obtain ⟨t, ht, rfl⟩ := isB_nat c1 (by omega)
    refine r_iload_n hX dX9_changed_8 rfl ?_
    refine r_iconst hX (nI 0) dX9_changed_9 rfl ?_
    refine r_iconst hX (nI 1) dX9_changed_10 rfl ?_
    refine r_callSF (As := [.int wh, .int (nI 0), .int (nI 1)]) (rest := []) hX (c_X9_within σ wh (nI 0) (nI 1)) dX9_changed_11 cb_X9_67 rfl rfl ⟨Nat.le_of_ble_eq_true rfl, Nat.le_of_ble_eq_true rfl⟩ ⟨Nat.le_of_ble_eq_true rfl, Nat.le_of_ble_eq_true rfl⟩ (Nat.le_of_ble_eq_true rfl) ?_
    refine r_ifB_ne hX dX9_changed_14 (fun c2 => ?_) (fun c2 => ?_)
    · skip
      obtain ⟨r, hrl, hr, rfl⟩ := inB_nat c2 (by decide) (by decide)
      refine r_aload_n hX dX9_changed_20 rfl ?_
      refine r_getR hX dX9_changed_21 fl_X9_10 (hA.1 100 (8, 0) rfl) rfl (hA.2.1 100 0 200 rfl) ?_
      refine r_getR hX dX9_changed_24 fl_X9_86 (hC.1 0 (2, 0) rfl) rfl (hC.2.1 0 5 4 rfl) ?_
      refine r_iload_n hX dX9_changed_27 rfl ?_
      refine r_callVF (As := [.int (nI t)]) (rest := []) hX (c_X8_changeOf 200 hC σ A hW hV t (by omega)) dX9_changed_28 cb_X9_214 (hC.1 4 (7, 0) rfl) rfl rfl ⟨Nat.le_of_ble_eq_true rfl, Nat.le_of_ble_eq_true rfl⟩ ⟨Nat.le_of_ble_eq_true rfl, Nat.le_of_ble_eq_true rfl⟩ (Nat.le_of_ble_eq_true rfl) ?_
      rcases hch : chK A t (aW A) with _ | p
      · skip
        show At X L σ 0 0 [(0, .ref (L.1 100)), (1, .int (nI t)), (2, .int (nI r))] 31 [.int (-1000000005)]
        refine r_istore_n hX [(0, .ref (L.1 100)), (1, .int (nI t)), (2, .int (nI r)), (3, .int (-1000000005))] dX9_changed_31 hN3 rfl ?_
        refine r_iload_n hX dX9_changed_32 rfl ?_
        refine r_ldc hX dX9_changed_33 ko_X9_195 ?_
        refine r_icmp_ne hX dX9_changed_35 (fun c3 => absurd rfl c3) (fun c3 => ?_)
        refine r_ldc hX dX9_changed_38 ko_X9_195 ?_
        exact r_ireturn hX hQ dX9_changed_40 ⟨Nat.le_of_ble_eq_true rfl, Nat.le_of_ble_eq_true rfl⟩ (PF.mk (by rw [oChanged, if_pos ⟨c1, c2⟩, nI_clamp (by omega), hch]))
      · skip
        show At X L σ 0 0 [(0, .ref (L.1 100)), (1, .int (nI t)), (2, .int (nI r))] 31 [.int (nI p.1)]
        have hpl := chK_lt hV (Nat.le_refl _) hch
        obtain ⟨w0, hw0, hw1, hw3⟩ := (chK_df hch).2
        refine r_istore_n hX [(0, .ref (L.1 100)), (1, .int (nI t)), (2, .int (nI r)), (3, .int (nI p.1))] dX9_changed_31 hN3 rfl ?_
        refine r_iload_n hX dX9_changed_32 rfl ?_
        refine r_ldc hX dX9_changed_33 ko_X9_195 ?_
        refine r_icmp_ne hX dX9_changed_35 (fun c4 => ?_) (fun c4 => absurd c4 (nneg_ne (by omega) (by decide)))
        refine r_iload_n hX dX9_changed_41 rfl ?_
        refine r_ifN_ne hX dX9_changed_42 (by omega) (fun c5 => ?_) (fun c5 => ?_)
        · skip
          refine r_aload_n hX dX9_changed_49 rfl ?_
          refine r_getR hX dX9_changed_50 fl_X9_10 (hA.1 100 (8, 0) rfl) rfl (hA.2.1 100 0 200 rfl) ?_
          refine r_getR hX dX9_changed_53 fl_X9_86 (hC.1 0 (2, 0) rfl) rfl (hC.2.1 0 5 4 rfl) ?_
          refine r_iload_n hX dX9_changed_56 rfl ?_
          refine r_iload_n hX dX9_changed_57 rfl ?_
          refine r_callVF (As := [.int (nI t), .int (nI p.1)]) (rest := []) hX (c_X8_changeBy 200 hC σ A hW hV t p.1 w0 (by omega) (by omega) hw0 hw1 hw3) dX9_changed_58 cb_X9_217 (hC.1 4 (7, 0) rfl) rfl rfl ⟨Nat.le_of_ble_eq_true rfl, Nat.le_of_ble_eq_true rfl⟩ ⟨Nat.le_of_ble_eq_true rfl, Nat.le_of_ble_eq_true rfl⟩ (Nat.le_of_ble_eq_true rfl) ?_
          exact r_ireturn hX hQ dX9_changed_61 ⟨Nat.le_of_ble_eq_true rfl, Nat.le_of_ble_eq_true rfl⟩ (PF.mk (by rw [oChanged, if_pos ⟨c1, c2⟩, nI_clamp (by omega), hch]; show _ = (if _ then _ else _); rw [if_neg (by rw [show r = 1 by omega]; decide), (chK_df hch).1]; rfl))
        · skip
          refine r_iload_n hX dX9_changed_45 rfl ?_
          refine r_goto hX dX9_changed_46 ?_
          exact r_ireturn hX hQ dX9_changed_61 ⟨Nat.le_of_ble_eq_true rfl, Nat.le_of_ble_eq_true rfl⟩ (PF.mk (by rw [oChanged, if_pos ⟨c1, c2⟩, nI_clamp (by omega), hch]; show _ = (if _ then _ else _); rw [if_pos (by rw [show r = 0 by omega])]))
    · skip
      refine r_ldc hX dX9_changed_17 ko_X9_75 ?_
      exact r_ireturn hX hQ dX9_changed_19 ⟨Nat.le_of_ble_eq_true rfl, Nat.le_of_ble_eq_true rfl⟩ (PF.mk (by rw [oChanged, if_neg (fun e => by have e := e.2; rw [c2] at e; cases e)]))

set_option maxHeartbeats 4000000 in
set_option maxRecDepth 100000 in
theorem c_X9_off {l : Launch} {D : Ds} {L : La}  (ka : Nat) (hK : KS D ka) (hA : CAt L) (σ : Me) (A : Al) (h0 : R0 σ 200 A) (hW : RW σ 200 A) (hTx : RX' L σ 200 A) (hV : Va A) (v wh : Int32) : Ct l yX9_off cX9_off 3 (some .int) { frames := 4, cells := 0, slots := 0, locals := 94 } D L σ [.ref (L.1 100), .int v, .int wh] (PI L (fun r σ2 => r = oOff A v wh ∧ Cs σ σ2)) := by
  refine Ct.of (by decide) (Nat.le_of_ble_eq_true rfl) ?_
  intro X hl hD hnl hX0 hQ
  have hX : Ok X cX9_off RX9 "off" { frames := 4, cells := 0, slots := 0, locals := 94 } (some .int) := hX0
  have hC := hA.2.2
  have hbb := hC.2.2
  have hW24 := hV.2.2.1
  have hT6 := hV.1
  have hN12 := hV.2.1
  have hX14 := hV.2.2.2.1
  show At X L σ 0 0 [(0, .ref (L.1 100)), (1, .int v), (2, .int wh)] 0 []
  refine r_iload_n hX dX9_off_0 rfl ?_
  refine r_iconst hX (nI 0) dX9_off_1 rfl ?_
  refine r_bipush hX (nI 10) dX9_off_2 rfl ?_
  refine r_callSF (As := [.int v, .int (nI 0), .int (nI 10)]) (rest := []) hX (c_X9_within σ v (nI 0) (nI 10)) dX9_off_4 cb_X9_67 rfl rfl ⟨Nat.le_of_ble_eq_true rfl, Nat.le_of_ble_eq_true rfl⟩ ⟨Nat.le_of_ble_eq_true rfl, Nat.le_of_ble_eq_true rfl⟩ (Nat.le_of_ble_eq_true rfl) ?_
  refine r_ifB_eq hX dX9_off_7 (fun c1 => ?_) (fun c1 => ?_)
  · skip
    refine r_ldc hX dX9_off_19 ko_X9_75 ?_
    exact r_ireturn hX hQ dX9_off_21 ⟨Nat.le_of_ble_eq_true rfl, Nat.le_of_ble_eq_true rfl⟩ (PI.mk ⟨by rw [oOff, if_neg (fun e => by have e := e.1; rw [c1] at e; cases e)], (Cs.rf σ)⟩)
  · skip
    obtain ⟨q, hql, hq, rfl⟩ := inB_nat c1 (by decide) (by decide)
    refine r_iload_n hX dX9_off_10 rfl ?_
    refine r_iconst hX (nI 0) dX9_off_11 rfl ?_
    refine r_iconst hX (nI 1) dX9_off_12 rfl ?_
    refine r_callSF (As := [.int wh, .int (nI 0), .int (nI 1)]) (rest := []) hX (c_X9_within σ wh (nI 0) (nI 1)) dX9_off_13 cb_X9_67 rfl rfl ⟨Nat.le_of_ble_eq_true rfl, Nat.le_of_ble_eq_true rfl⟩ ⟨Nat.le_of_ble_eq_true rfl, Nat.le_of_ble_eq_true rfl⟩ (Nat.le_of_ble_eq_true rfl) ?_
    refine r_ifB_ne hX dX9_off_16 (fun c2 => ?_) (fun c2 => ?_)
    · skip
      obtain ⟨r, hrl, hr, rfl⟩ := inB_nat c2 (by decide) (by decide)
      refine r_aload_n hX dX9_off_22 rfl ?_
      refine r_getR hX dX9_off_23 fl_X9_10 (hA.1 100 (8, 0) rfl) rfl (hA.2.1 100 0 200 rfl) ?_
      refine r_callVV (As := []) (rest := []) hX (c_X3_fillSigns 200 hC σ A h0 hW hTx hV) dX9_off_26 cb_X9_220 (hC.1 0 (2, 0) rfl) rfl rfl ⟨Nat.le_of_ble_eq_true rfl, Nat.le_of_ble_eq_true rfl⟩ ⟨Nat.le_of_ble_eq_true rfl, Nat.le_of_ble_eq_true rfl⟩ (Nat.le_of_ble_eq_true rfl) (fun σ3 h4 => ?_)
      obtain ⟨hP6, hS5⟩ := h4
      have g07 := R0.cs h0 hC hS5
      have gW8 := RW.cs hW hC hS5
      have gX9 := RX'.cs hTx hS5
      refine r_aload_n hX dX9_off_29 rfl ?_
      refine r_getR hX dX9_off_30 fl_X9_10 (hA.1 100 (8, 0) rfl) rfl (hA.2.1 100 0 200 rfl) ?_
      refine r_iload_n hX dX9_off_33 rfl ?_
      refine r_iload_n hX dX9_off_34 rfl ?_
      refine r_iconst hX (nI 1) dX9_off_35 rfl ?_
      refine r_icmpN_ne hX dX9_off_36 (by omega) (by decide) (fun c10 => ?_) (fun c10 => ?_)
      · skip
        refine r_iconst hX (nI 0) dX9_off_43 rfl ?_
        refine r_callVF (As := [.int (nI q), .int (nI 0)]) (rest := []) hX (by rw [hl, hD]; exact c_X3_takenOff ka hK 200 hC σ3 A g07 gW8 gX9 hV hP6 q 0 (by omega) (by decide)) dX9_off_44 cb_X9_223 (hC.1 0 (2, 0) rfl) rfl rfl ⟨Nat.le_of_ble_eq_true rfl, Nat.le_of_ble_eq_true rfl⟩ ⟨Nat.le_of_ble_eq_true rfl, Nat.le_of_ble_eq_true rfl⟩ (Nat.le_of_ble_eq_true rfl) ?_
        exact r_ireturn hX hQ dX9_off_47 ⟨Nat.le_of_ble_eq_true rfl, Nat.le_of_ble_eq_true rfl⟩ (PI.mk ⟨by rw [oOff, if_pos ⟨c1, c2⟩, nI_clamp (by omega), nI_clamp (by omega), show r = 0 by omega], (Cs.tr (Cs.rf σ) hS5)⟩)
      · skip
        refine r_iconst hX (nI 1) dX9_off_39 rfl ?_
        refine r_goto hX dX9_off_40 ?_
        refine r_callVF (As := [.int (nI q), .int (nI 1)]) (rest := []) hX (by rw [hl, hD]; exact c_X3_takenOff ka hK 200 hC σ3 A g07 gW8 gX9 hV hP6 q 1 (by omega) (by decide)) dX9_off_44 cb_X9_223 (hC.1 0 (2, 0) rfl) rfl rfl ⟨Nat.le_of_ble_eq_true rfl, Nat.le_of_ble_eq_true rfl⟩ ⟨Nat.le_of_ble_eq_true rfl, Nat.le_of_ble_eq_true rfl⟩ (Nat.le_of_ble_eq_true rfl) ?_
        exact r_ireturn hX hQ dX9_off_47 ⟨Nat.le_of_ble_eq_true rfl, Nat.le_of_ble_eq_true rfl⟩ (PI.mk ⟨by rw [oOff, if_pos ⟨c1, c2⟩, nI_clamp (by omega), nI_clamp (by omega), show r = 1 by omega], (Cs.tr (Cs.rf σ) hS5)⟩)
    · skip
      refine r_ldc hX dX9_off_19 ko_X9_75 ?_
      exact r_ireturn hX hQ dX9_off_21 ⟨Nat.le_of_ble_eq_true rfl, Nat.le_of_ble_eq_true rfl⟩ (PI.mk ⟨by rw [oOff, if_neg (fun e => by have e := e.2; rw [c2] at e; cases e)], (Cs.rf σ)⟩)

set_option maxHeartbeats 4000000 in
set_option maxRecDepth 100000 in
theorem c_X9_bound {l : Launch} {D : Ds} {L : La}  (ka : Nat) (hK : KS D ka) (hA : CAt L) (σ : Me) (A : Al) (h0 : R0 σ 200 A) (hW : RW σ 200 A) (hTx : RX' L σ 200 A) (hV : Va A) (wh : Int32) : Ct l yX9_bound cX9_bound 3 (some .int) { frames := 5, cells := 0, slots := 0, locals := 110 } D L σ [.ref (L.1 100), .int wh] (PI L (fun r σ2 => r = oBound A wh ∧ Cs σ σ2)) := by
  refine Ct.of (by decide) (Nat.le_of_ble_eq_true rfl) ?_
  intro X hl hD hnl hX0 hQ
  have hX : Ok X cX9_bound RX9 "bound" { frames := 5, cells := 0, slots := 0, locals := 110 } (some .int) := hX0
  have hN2 : 2 < xn X := by rw [hnl]; decide
  have hC := hA.2.2
  have hbb := hC.2.2
  have hW24 := hV.2.2.1
  have hT6 := hV.1
  have hN12 := hV.2.1
  have hX14 := hV.2.2.2.1
  show At X L σ 0 0 [(0, .ref (L.1 100)), (1, .int wh)] 0 []
  refine r_iload_n hX dX9_bound_0 rfl ?_
  refine r_iconst hX (nI 0) dX9_bound_1 rfl ?_
  refine r_iconst hX (nI 1) dX9_bound_2 rfl ?_
  refine r_callSF (As := [.int wh, .int (nI 0), .int (nI 1)]) (rest := []) hX (c_X9_within σ wh (nI 0) (nI 1)) dX9_bound_3 cb_X9_67 rfl rfl ⟨Nat.le_of_ble_eq_true rfl, Nat.le_of_ble_eq_true rfl⟩ ⟨Nat.le_of_ble_eq_true rfl, Nat.le_of_ble_eq_true rfl⟩ (Nat.le_of_ble_eq_true rfl) ?_
  refine r_ifB_ne hX dX9_bound_6 (fun c1 => ?_) (fun c1 => ?_)
  · skip
    obtain ⟨r, hrl, hr, rfl⟩ := inB_nat c1 (by decide) (by decide)
    refine r_aload_n hX dX9_bound_12 rfl ?_
    refine r_getR hX dX9_bound_13 fl_X9_10 (hA.1 100 (8, 0) rfl) rfl (hA.2.1 100 0 200 rfl) ?_
    refine r_callVV (As := []) (rest := []) hX (c_X3_fillSigns 200 hC σ A h0 hW hTx hV) dX9_bound_16 cb_X9_220 (hC.1 0 (2, 0) rfl) rfl rfl ⟨Nat.le_of_ble_eq_true rfl, Nat.le_of_ble_eq_true rfl⟩ ⟨Nat.le_of_ble_eq_true rfl, Nat.le_of_ble_eq_true rfl⟩ (Nat.le_of_ble_eq_true rfl) (fun σ2 h3 => ?_)
    obtain ⟨hP5, hS4⟩ := h3
    have g06 := R0.cs h0 hC hS4
    have gW7 := RW.cs hW hC hS4
    have gX8 := RX'.cs hTx hS4
    refine r_aload_n hX dX9_bound_19 rfl ?_
    refine r_getR hX dX9_bound_20 fl_X9_10 (hA.1 100 (8, 0) rfl) rfl (hA.2.1 100 0 200 rfl) ?_
    refine r_callVF (As := []) (rest := []) hX (by rw [hl, hD]; exact c_X3_bestBound ka hK 200 hC σ2 A g06 gW7 gX8 hV hP5  ) dX9_bound_23 cb_X9_226 (hC.1 0 (2, 0) rfl) rfl rfl ⟨Nat.le_of_ble_eq_true rfl, Nat.le_of_ble_eq_true rfl⟩ ⟨Nat.le_of_ble_eq_true rfl, Nat.le_of_ble_eq_true rfl⟩ (Nat.le_of_ble_eq_true rfl) ?_
    refine r_istore_n hX [(0, .ref (L.1 100)), (1, .int (nI r)), (2, .int (nI (bdK A 10)))] dX9_bound_26 hN2 rfl ?_
    refine r_iload_n hX dX9_bound_27 rfl ?_
    refine r_ifN_ne hX dX9_bound_28 (by omega) (fun c9 => ?_) (fun c9 => ?_)
    · skip
      refine r_aload_n hX dX9_bound_35 rfl ?_
      refine r_getR hX dX9_bound_36 fl_X9_10 (hA.1 100 (8, 0) rfl) rfl (hA.2.1 100 0 200 rfl) ?_
      refine r_iload_n hX dX9_bound_39 rfl ?_
      refine r_callVF (As := [.int (nI (bdK A 10))]) (rest := []) hX (by rw [hl, hD]; exact c_X3_gainOf ka hK 200 hC σ2 A g06 gW7 gX8 hV hP5 (bdK A 10) (bdK_le A 10)) dX9_bound_40 cb_X9_230 (hC.1 0 (2, 0) rfl) rfl rfl ⟨Nat.le_of_ble_eq_true rfl, Nat.le_of_ble_eq_true rfl⟩ ⟨Nat.le_of_ble_eq_true rfl, Nat.le_of_ble_eq_true rfl⟩ (Nat.le_of_ble_eq_true rfl) ?_
      exact r_ireturn hX hQ dX9_bound_43 ⟨Nat.le_of_ble_eq_true rfl, Nat.le_of_ble_eq_true rfl⟩ (PI.mk ⟨by rw [oBound, if_pos c1, if_neg (by rw [show r = 1 by omega]; decide)], (Cs.tr (Cs.rf σ) hS4)⟩)
    · skip
      refine r_iload_n hX dX9_bound_31 rfl ?_
      refine r_goto hX dX9_bound_32 ?_
      exact r_ireturn hX hQ dX9_bound_43 ⟨Nat.le_of_ble_eq_true rfl, Nat.le_of_ble_eq_true rfl⟩ (PI.mk ⟨by rw [oBound, if_pos c1, if_pos (by rw [show r = 0 by omega])], (Cs.tr (Cs.rf σ) hS4)⟩)
  · skip
    refine r_ldc hX dX9_bound_9 ko_X9_75 ?_
    exact r_ireturn hX hQ dX9_bound_11 ⟨Nat.le_of_ble_eq_true rfl, Nat.le_of_ble_eq_true rfl⟩ (PI.mk ⟨by rw [oBound, if_neg (by rw [c1]; decide)], (Cs.rf σ)⟩)

set_option maxHeartbeats 4000000 in
set_option maxRecDepth 100000 in
theorem c_X9_clean {l : Launch} {D : Ds} {L : La}  (hA : CAt L) (σ : Me) (A : Al) (h0 : R0 σ 200 A) (hW : RW σ 200 A) (hTx : RX' L σ 200 A) (hV : Va A) (v : Int32) : Ct l yX9_clean cX9_clean 2 (some .int) { frames := 4, cells := 0, slots := 0, locals := 94 } D L σ [.ref (L.1 100), .int v] (PI L (fun r σ2 => r = (oClean A v).1 ∧ RC L σ2 200 (oClean A v).2 ∧ Cb 200 σ σ2)) := by
  refine Ct.of (by decide) (Nat.le_of_ble_eq_true rfl) ?_
  intro X hl hD hnl hX0 hQ
  have hX : Ok X cX9_clean RX9 "clean" { frames := 4, cells := 0, slots := 0, locals := 94 } (some .int) := hX0
  have hC := hA.2.2
  have hbb := hC.2.2
  have hW24 := hV.2.2.1
  have hT6 := hV.1
  have hN12 := hV.2.1
  have hX14 := hV.2.2.2.1
  show At X L σ 0 0 [(0, .ref (L.1 100)), (1, .int v)] 0 []
  refine r_iload_n hX dX9_clean_0 rfl ?_
  refine r_iconst hX (nI 0) dX9_clean_1 rfl ?_
  refine r_bipush hX (nI 10) dX9_clean_2 rfl ?_
  refine r_callSF (As := [.int v, .int (nI 0), .int (nI 10)]) (rest := []) hX (c_X9_within σ v (nI 0) (nI 10)) dX9_clean_4 cb_X9_67 rfl rfl ⟨Nat.le_of_ble_eq_true rfl, Nat.le_of_ble_eq_true rfl⟩ ⟨Nat.le_of_ble_eq_true rfl, Nat.le_of_ble_eq_true rfl⟩ (Nat.le_of_ble_eq_true rfl) ?_
  refine r_ifB_ne hX dX9_clean_7 (fun c1 => ?_) (fun c1 => ?_)
  · skip
    obtain ⟨q, hql, hq, rfl⟩ := inB_nat c1 (by decide) (by decide)
    refine r_aload_n hX dX9_clean_13 rfl ?_
    refine r_getR hX dX9_clean_14 fl_X9_10 (hA.1 100 (8, 0) rfl) rfl (hA.2.1 100 0 200 rfl) ?_
    refine r_callVV (As := []) (rest := []) hX (c_X3_fillSigns 200 hC σ A h0 hW hTx hV) dX9_clean_17 cb_X9_220 (hC.1 0 (2, 0) rfl) rfl rfl ⟨Nat.le_of_ble_eq_true rfl, Nat.le_of_ble_eq_true rfl⟩ ⟨Nat.le_of_ble_eq_true rfl, Nat.le_of_ble_eq_true rfl⟩ (Nat.le_of_ble_eq_true rfl) (fun σ2 h3 => ?_)
    obtain ⟨hP5, hS4⟩ := h3
    have g06 := R0.cs h0 hC hS4
    have gW7 := RW.cs hW hC hS4
    have gX8 := RX'.cs hTx hS4
    refine r_aload_n hX dX9_clean_20 rfl ?_
    refine r_getR hX dX9_clean_21 fl_X9_10 (hA.1 100 (8, 0) rfl) rfl (hA.2.1 100 0 200 rfl) ?_
    refine r_iload_n hX dX9_clean_24 rfl ?_
    refine r_callVI (As := [.int (nI q)]) (rest := []) hX (c_X3_takeOff 200 hC σ2 A g06 gW7 gX8 hV hP5 q (by omega)) dX9_clean_25 cb_X9_233 (hC.1 0 (2, 0) rfl) rfl rfl ⟨Nat.le_of_ble_eq_true rfl, Nat.le_of_ble_eq_true rfl⟩ ⟨Nat.le_of_ble_eq_true rfl, Nat.le_of_ble_eq_true rfl⟩ (Nat.le_of_ble_eq_true rfl) (fun r9 σ10 h11 => ?_)
    obtain ⟨rfl, hRC12, hS13⟩ := h11
    exact r_ireturn hX hQ dX9_clean_28 ⟨Nat.le_of_ble_eq_true rfl, Nat.le_of_ble_eq_true rfl⟩ (PI.mk (by rw [oClean, if_pos c1, nI_clamp (by omega)]; exact ⟨rfl, hRC12, (Cb.tr (Cb.tr (Cb.rf 200 σ) hS4.cb) hS13)⟩))
  · skip
    refine r_ldc hX dX9_clean_10 ko_X9_75 ?_
    exact r_ireturn hX hQ dX9_clean_12 ⟨Nat.le_of_ble_eq_true rfl, Nat.le_of_ble_eq_true rfl⟩ (PI.mk (by rw [oClean, if_neg (by rw [c1]; decide)]; exact ⟨rfl, ⟨h0, hW, hTx⟩, (Cb.rf 200 σ)⟩))

set_option maxHeartbeats 4000000 in
set_option maxRecDepth 100000 in
theorem c_X9_buy {l : Launch} {D : Ds} {L : La}  (hA : CAt L) (σ : Me) (A : Al) (h0 : R0 σ 200 A) (hW : RW σ 200 A) (hTx : RX' L σ 200 A) (hV : Va A) (n h : Int32) : Ct l yX9_buy cX9_buy 5 (some .int) { frames := 6, cells := 0, slots := 0, locals := 149 } D L σ [.ref (L.1 100), .int n, .int h] (PI L (fun r σ2 => r = (oBuy A n h).1 ∧ RC L σ2 200 (oBuy A n h).2 ∧ Cb 200 σ σ2)) := by
  refine Ct.of (by decide) (Nat.le_of_ble_eq_true rfl) ?_
  intro X hl hD hnl hX0 hQ
  have hX : Ok X cX9_buy RX9 "buy" { frames := 6, cells := 0, slots := 0, locals := 149 } (some .int) := hX0
  have hN3 : 3 < xn X := by rw [hnl]; decide
  have hN4 : 4 < xn X := by rw [hnl]; decide
  have hC := hA.2.2
  have hbb := hC.2.2
  have hW24 := hV.2.2.1
  have hT6 := hV.1
  have hN12 := hV.2.1
  have hX14 := hV.2.2.2.1
  show At X L σ 0 0 [(0, .ref (L.1 100)), (1, .int n), (2, .int h)] 0 []
  refine r_iload_n hX dX9_buy_0 rfl ?_
  refine r_iconst hX (nI 1) dX9_buy_1 rfl ?_
  refine r_bipush hX (nI 20) dX9_buy_2 rfl ?_
  refine r_callSF (As := [.int n, .int (nI 1), .int (nI 20)]) (rest := []) hX (c_X9_within σ n (nI 1) (nI 20)) dX9_buy_4 cb_X9_67 rfl rfl ⟨Nat.le_of_ble_eq_true rfl, Nat.le_of_ble_eq_true rfl⟩ ⟨Nat.le_of_ble_eq_true rfl, Nat.le_of_ble_eq_true rfl⟩ (Nat.le_of_ble_eq_true rfl) ?_
  refine r_ifB_eq hX dX9_buy_7 (fun c1 => ?_) (fun c1 => ?_)
  · skip
    refine r_ldc hX dX9_buy_17 ko_X9_75 ?_
    exact r_ireturn hX hQ dX9_buy_19 ⟨Nat.le_of_ble_eq_true rfl, Nat.le_of_ble_eq_true rfl⟩ (PI.mk (by rw [oBuy, if_neg (fun e => by have e := e.1; rw [c1] at e; cases e)]; exact ⟨rfl, ⟨h0, hW, hTx⟩, (Cb.rf 200 σ)⟩))
  · skip
    obtain ⟨q, hql, hq, rfl⟩ := inB_nat c1 (by decide) (by decide)
    refine r_iload_n hX dX9_buy_10 rfl ?_
    refine r_callSF (As := [.int h]) (rest := []) hX (c_X9_isHour σ h) dX9_buy_11 cb_X9_101 rfl rfl ⟨Nat.le_of_ble_eq_true rfl, Nat.le_of_ble_eq_true rfl⟩ ⟨Nat.le_of_ble_eq_true rfl, Nat.le_of_ble_eq_true rfl⟩ (Nat.le_of_ble_eq_true rfl) ?_
    refine r_ifB_ne hX dX9_buy_14 (fun c2 => ?_) (fun c2 => ?_)
    · skip
      obtain ⟨y, hyl, hy, rfl⟩ := inB_nat c2 (by decide) (by decide)
      refine r_aload_n hX dX9_buy_20 rfl ?_
      refine r_getR hX dX9_buy_21 fl_X9_10 (hA.1 100 (8, 0) rfl) rfl (hA.2.1 100 0 200 rfl) ?_
      refine r_getIV hX dX9_buy_24 fl_X9_192 (hC.1 0 (2, 0) rfl) rfl (nI (aT A)) h0.1 ?_
      refine r_ifN_ne hX dX9_buy_27 (by omega) (fun c3 => ?_) (fun c3 => ?_)
      · skip
        refine r_iconst hX (nI 0) dX9_buy_33 rfl ?_
        refine r_istore_n hX [(0, .ref (L.1 100)), (1, .int (nI q)), (2, .int (nI y)), (3, .int (nI 0))] dX9_buy_34 hN3 rfl ?_
        refine r_iconst hX (nI 0) dX9_buy_35 rfl ?_
        refine r_istore hX [(0, .ref (L.1 100)), (1, .int (nI q)), (2, .int (nI y)), (3, .int (nI 0)), (4, .int (nI 0))] dX9_buy_36 hN4 rfl ?_
        have P4 : ∀ k, k ≤ q → ∀ (σk : Me) (hRk : RC L σk 200 (buyK A y k).1) (hSk : Cb 200 σ σk), At X L σk 0 0 [(0, .ref (L.1 100)), (1, .int (nI q)), (2, .int (nI y)), (3, .int (nI ((buyK A y k).2))), (4, .int (nI k))] 38 [] := by
          refine loopUp q ?_ ?_
          · skip
            intro σk hRk hSk
            refine r_iload hX dX9_buy_38 rfl ?_
            refine r_iload_n hX dX9_buy_40 rfl ?_
            refine r_icmpN_ge hX dX9_buy_41 (by omega) (by omega) (fun c5 => ?_) (fun c5 => absurd c5 (by omega))
            refine r_iload_n hX dX9_buy_67 rfl ?_
            exact r_ireturn hX hQ dX9_buy_68 ⟨Nat.le_of_ble_eq_true rfl, Nat.le_of_ble_eq_true rfl⟩ (PI.mk (by rw [oBuy, if_pos ⟨c1, c2⟩, if_neg c3, nI_clamp (by omega), nI_clamp (by omega)]; exact ⟨rfl, hRk, hSk⟩))
          · skip
            intro k hk ih6 σk hRk hSk
            have hvk := va_buyK hV (by omega : 0 < aT A) hy k
            have hbr : byR (buyK A y k).1 ≤ 5 := by unfold byR; have := byS_in (buyK A y k).1; split <;> omega
            have hbt := byT_lt hvk.1 (by rw [hvk.2.1]; omega)
            refine r_iload hX dX9_buy_38 rfl ?_
            refine r_iload_n hX dX9_buy_40 rfl ?_
            refine r_icmpN_ge hX dX9_buy_41 (by omega) (by omega) (fun c7 => absurd c7 (by omega)) (fun c7 => ?_)
            refine r_aload_n hX dX9_buy_44 rfl ?_
            refine r_getR hX dX9_buy_45 fl_X9_10 (hA.1 100 (8, 0) rfl) rfl (hA.2.1 100 0 200 rfl) ?_
            refine r_iload_n hX dX9_buy_48 rfl ?_
            refine r_callVI (As := [.int (nI y)]) (rest := []) hX (c_X3_buyerComes 200 hC σk ((buyK A y k).1) hRk.1 hRk.2.1 hRk.2.2 hvk.1 y (by rw [hvk.2.1]; omega) (by omega)) dX9_buy_49 cb_X9_237 (hC.1 0 (2, 0) rfl) rfl rfl ⟨Nat.le_of_ble_eq_true rfl, Nat.le_of_ble_eq_true rfl⟩ ⟨Nat.le_of_ble_eq_true rfl, Nat.le_of_ble_eq_true rfl⟩ (Nat.le_of_ble_eq_true rfl) (fun r8 σ9 h10 => ?_)
            obtain ⟨rfl, hRC11, hS12⟩ := h10
            refine r_bipush hX (nI 10) dX9_buy_52 rfl ?_
            refine r_iremN hX dX9_buy_54 (by omega) (by decide) (by decide) ?_
            refine r_ifN_le hX dX9_buy_55 (by omega) (fun c13 => ?_) (fun c13 => ?_)
            · skip
              refine r_iincN (n := 1) hX [(0, .ref (L.1 100)), (1, .int (nI q)), (2, .int (nI y)), (3, .int (nI ((buyK A y k).2))), (4, .int (nI (k + 1)))] dX9_buy_61 rfl hN4 rfl ?_
              refine r_goto hX dX9_buy_64 ?_
              have q14 : (buyK A y (k + 1)).2 = (buyK A y k).2 := (by rw [buyK]; show (buyK A y k).2 + (if 0 < byR (buyK A y k).1 then 1 else 0) = _; rw [if_neg (by omega)]; try rfl)
              exact At.to (ih6 _ hRC11 (Cb.tr hSk hS12)) (by rw [q14]) rfl rfl
            · skip
              refine r_iincN (n := 1) hX [(0, .ref (L.1 100)), (1, .int (nI q)), (2, .int (nI y)), (3, .int (nI ((buyK A y k).2 + 1))), (4, .int (nI k))] dX9_buy_58 rfl hN3 rfl ?_
              refine r_iincN (n := 1) hX [(0, .ref (L.1 100)), (1, .int (nI q)), (2, .int (nI y)), (3, .int (nI ((buyK A y k).2 + 1))), (4, .int (nI (k + 1)))] dX9_buy_61 rfl hN4 rfl ?_
              refine r_goto hX dX9_buy_64 ?_
              have q15 : (buyK A y (k + 1)).2 = (buyK A y k).2 + 1 := (by rw [buyK]; show (buyK A y k).2 + (if 0 < byR (buyK A y k).1 then 1 else 0) = _; rw [if_pos (by omega)]; try rfl)
              exact At.to (ih6 _ hRC11 (Cb.tr hSk hS12)) (by rw [q15]) rfl rfl
        exact At.to (P4 0 (Nat.zero_le _) σ ⟨h0, hW, hTx⟩ (Cb.rf 200 σ)) rfl rfl rfl
      · skip
        refine r_ldc hX dX9_buy_30 ko_X9_236 ?_
        exact r_ireturn hX hQ dX9_buy_32 ⟨Nat.le_of_ble_eq_true rfl, Nat.le_of_ble_eq_true rfl⟩ (PI.mk (by rw [oBuy, if_pos ⟨c1, c2⟩, if_pos c3]; exact ⟨rfl, ⟨h0, hW, hTx⟩, (Cb.rf 200 σ)⟩))
    · skip
      refine r_ldc hX dX9_buy_17 ko_X9_75 ?_
      exact r_ireturn hX hQ dX9_buy_19 ⟨Nat.le_of_ble_eq_true rfl, Nat.le_of_ble_eq_true rfl⟩ (PI.mk (by rw [oBuy, if_neg (fun e => by have e := e.2; rw [c2] at e; cases e)]; exact ⟨rfl, ⟨h0, hW, hTx⟩, (Cb.rf 200 σ)⟩))

set_option maxHeartbeats 4000000 in
set_option maxRecDepth 100000 in
theorem c_X9_job {l : Launch} {D : Ds} {L : La}  (hA : CAt L) (σ : Me) (A : Al) (h0 : R0 σ 200 A) (hW : RW σ 200 A) (hTx : RX' L σ 200 A) (hV : Va A) (th n h s : Int32) : Ct l yX9_job cX9_job 7 (some .int) { frames := 2, cells := 0, slots := 0, locals := 43 } D L σ [.ref (L.1 100), .int th, .int n, .int h, .int s] (PI L (fun r σ2 => r = (oJob A th n h s).1 ∧ RC L σ2 200 (oJob A th n h s).2 ∧ Cb 200 σ σ2)) := by
  refine Ct.of (by decide) (Nat.le_of_ble_eq_true rfl) ?_
  intro X hl hD hnl hX0 hQ
  have hX : Ok X cX9_job RX9 "job" { frames := 2, cells := 0, slots := 0, locals := 43 } (some .int) := hX0
  have hN5 : 5 < xn X := by rw [hnl]; decide
  have hN6 : 6 < xn X := by rw [hnl]; decide
  have hC := hA.2.2
  have hbb := hC.2.2
  have hW24 := hV.2.2.1
  have hT6 := hV.1
  have hN12 := hV.2.1
  have hX14 := hV.2.2.2.1
  show At X L σ 0 0 [(0, .ref (L.1 100)), (1, .int th), (2, .int n), (3, .int h), (4, .int s)] 0 []
  refine r_aload_n hX dX9_job_0 rfl ?_
  refine r_iload_n hX dX9_job_1 rfl ?_
  refine r_callVF (As := [.int th]) (rest := []) hX (c_X9_isThing hA σ A h0 hW hTx hV th) dX9_job_2 cb_X9_76 (hA.1 100 (8, 0) rfl) rfl rfl ⟨Nat.le_of_ble_eq_true rfl, Nat.le_of_ble_eq_true rfl⟩ ⟨Nat.le_of_ble_eq_true rfl, Nat.le_of_ble_eq_true rfl⟩ (Nat.le_of_ble_eq_true rfl) ?_
  refine r_ifB_eq hX dX9_job_5 (fun c1 => ?_) (fun c1 => ?_)
  · skip
    refine r_ldc hX dX9_job_44 ko_X9_75 ?_
    exact r_ireturn hX hQ dX9_job_46 ⟨Nat.le_of_ble_eq_true rfl, Nat.le_of_ble_eq_true rfl⟩ (PI.mk (by rw [oJob, if_neg (fun e => by have e := e.1; rw [c1] at e; cases e)]; exact ⟨rfl, ⟨h0, hW, hTx⟩, (Cb.rf 200 σ)⟩))
  · skip
    obtain ⟨t, ht, rfl⟩ := isB_nat c1 (by omega)
    refine r_iload_n hX dX9_job_8 rfl ?_
    refine r_iconst hX (nI 1) dX9_job_9 rfl ?_
    refine r_bipush hX (nI 12) dX9_job_10 rfl ?_
    refine r_callSF (As := [.int n, .int (nI 1), .int (nI 12)]) (rest := []) hX (c_X9_within σ n (nI 1) (nI 12)) dX9_job_12 cb_X9_67 rfl rfl ⟨Nat.le_of_ble_eq_true rfl, Nat.le_of_ble_eq_true rfl⟩ ⟨Nat.le_of_ble_eq_true rfl, Nat.le_of_ble_eq_true rfl⟩ (Nat.le_of_ble_eq_true rfl) ?_
    refine r_ifB_eq hX dX9_job_15 (fun c2 => ?_) (fun c2 => ?_)
    · skip
      refine r_ldc hX dX9_job_44 ko_X9_75 ?_
      exact r_ireturn hX hQ dX9_job_46 ⟨Nat.le_of_ble_eq_true rfl, Nat.le_of_ble_eq_true rfl⟩ (PI.mk (by rw [oJob, if_neg (fun e => by have e := e.2.1; rw [c2] at e; cases e)]; exact ⟨rfl, ⟨h0, hW, hTx⟩, (Cb.rf 200 σ)⟩))
    · skip
      obtain ⟨q, hql, hq, rfl⟩ := inB_nat c2 (by decide) (by decide)
      refine r_iload_n hX dX9_job_18 rfl ?_
      refine r_callSF (As := [.int h]) (rest := []) hX (c_X9_isHour σ h) dX9_job_19 cb_X9_101 rfl rfl ⟨Nat.le_of_ble_eq_true rfl, Nat.le_of_ble_eq_true rfl⟩ ⟨Nat.le_of_ble_eq_true rfl, Nat.le_of_ble_eq_true rfl⟩ (Nat.le_of_ble_eq_true rfl) ?_
      refine r_ifB_eq hX dX9_job_22 (fun c3 => ?_) (fun c3 => ?_)
      · skip
        refine r_ldc hX dX9_job_44 ko_X9_75 ?_
        exact r_ireturn hX hQ dX9_job_46 ⟨Nat.le_of_ble_eq_true rfl, Nat.le_of_ble_eq_true rfl⟩ (PI.mk (by rw [oJob, if_neg (fun e => by have e := e.2.2.1; rw [job_h hql hq, c3] at e; cases e)]; exact ⟨rfl, ⟨h0, hW, hTx⟩, (Cb.rf 200 σ)⟩))
      · skip
        obtain ⟨y, hyl, hy, rfl⟩ := inB_nat c3 (by decide) (by decide)
        refine r_iload hX dX9_job_25 rfl ?_
        refine r_callSF (As := [.int s]) (rest := []) hX (c_X9_isStars σ s) dX9_job_27 cb_X9_169 rfl rfl ⟨Nat.le_of_ble_eq_true rfl, Nat.le_of_ble_eq_true rfl⟩ ⟨Nat.le_of_ble_eq_true rfl, Nat.le_of_ble_eq_true rfl⟩ (Nat.le_of_ble_eq_true rfl) ?_
        refine r_ifB_eq hX dX9_job_30 (fun c4 => ?_) (fun c4 => ?_)
        · skip
          refine r_ldc hX dX9_job_44 ko_X9_75 ?_
          exact r_ireturn hX hQ dX9_job_46 ⟨Nat.le_of_ble_eq_true rfl, Nat.le_of_ble_eq_true rfl⟩ (PI.mk (by rw [oJob, if_neg (fun e => by have e := e.2.2.2; rw [c4] at e; cases e)]; exact ⟨rfl, ⟨h0, hW, hTx⟩, (Cb.rf 200 σ)⟩))
        · skip
          obtain ⟨u, hul, hu, rfl⟩ := inB_nat c4 (by decide) (by decide)
          refine r_iload_n hX dX9_job_33 rfl ?_
          refine r_iload_n hX dX9_job_34 rfl ?_
          refine r_iaddN hX dX9_job_35 ?_
          refine r_iconst hX (nI 1) dX9_job_36 rfl ?_
          refine r_isub hX dX9_job_37 ?_
          refine r_callSF (As := [.int ((nI (y + q)) - (nI 1))]) (rest := []) hX (c_X9_isHour σ ((nI (y + q)) - (nI 1))) dX9_job_38 cb_X9_101 rfl rfl ⟨Nat.le_of_ble_eq_true rfl, Nat.le_of_ble_eq_true rfl⟩ ⟨Nat.le_of_ble_eq_true rfl, Nat.le_of_ble_eq_true rfl⟩ (Nat.le_of_ble_eq_true rfl) ?_
          refine r_ifB_ne hX dX9_job_41 (fun c5 => ?_) (fun c5 => ?_)
          · skip
            have hyq : y + q ≤ 1000 := by have e := c5; rw [pk_sub (by omega)] at e; obtain ⟨z, _, hz, hze⟩ := inB_nat e (by decide) (by decide); rw [nI_eq (by omega) (by omega)] at hze; omega
            refine r_aload_n hX dX9_job_47 rfl ?_
            refine r_getR hX dX9_job_48 fl_X9_10 (hA.1 100 (8, 0) rfl) rfl (hA.2.1 100 0 200 rfl) ?_
            refine r_getIV hX dX9_job_51 fl_X9_107 (hC.1 0 (2, 0) rfl) rfl (nI (aN A)) h0.2.1 ?_
            refine r_ifN_ne hX dX9_job_54 (by omega) (fun c6 => ?_) (fun c6 => ?_)
            · skip
              refine r_aload_n hX dX9_job_60 rfl ?_
              refine r_getR hX dX9_job_61 fl_X9_10 (hA.1 100 (8, 0) rfl) rfl (hA.2.1 100 0 200 rfl) ?_
              refine r_getR hX dX9_job_64 fl_X9_86 (hC.1 0 (2, 0) rfl) rfl (hC.2.1 0 5 4 rfl) ?_
              refine r_callVF (As := []) (rest := []) hX (c_X8_room 200 hC σ A hW hV) dX9_job_67 cb_X9_240 (hC.1 4 (7, 0) rfl) rfl rfl ⟨Nat.le_of_ble_eq_true rfl, Nat.le_of_ble_eq_true rfl⟩ ⟨Nat.le_of_ble_eq_true rfl, Nat.le_of_ble_eq_true rfl⟩ (Nat.le_of_ble_eq_true rfl) ?_
              refine r_iload_n hX dX9_job_70 rfl ?_
              refine r_icmpN_ge hX dX9_job_71 (by omega) (by omega) (fun c7 => ?_) (fun c7 => ?_)
              · skip
                refine r_aload_n hX dX9_job_77 rfl ?_
                refine r_getR hX dX9_job_78 fl_X9_10 (hA.1 100 (8, 0) rfl) rfl (hA.2.1 100 0 200 rfl) ?_
                refine r_getR hX dX9_job_81 fl_X9_86 (hC.1 0 (2, 0) rfl) rfl (hC.2.1 0 5 4 rfl) ?_
                refine r_getIV hX dX9_job_84 fl_X9_176 (hC.1 4 (7, 0) rfl) rfl (nI (aW A)) hW.1 ?_
                refine r_istore hX [(0, .ref (L.1 100)), (1, .int (nI t)), (2, .int (nI q)), (3, .int (nI y)), (4, .int (nI u)), (5, .int (nI (aW A)))] dX9_job_87 hN5 rfl ?_
                refine r_iconst hX (nI 0) dX9_job_89 rfl ?_
                refine r_istore hX [(0, .ref (L.1 100)), (1, .int (nI t)), (2, .int (nI q)), (3, .int (nI y)), (4, .int (nI u)), (5, .int (nI (aW A))), (6, .int (nI 0))] dX9_job_90 hN6 rfl ?_
                have P8 : ∀ i, i ≤ q → ∀ (σk : Me) (hRk : RC L σk 200 (jobK A t y u i)) (hSk : Cb 200 σ σk), At X L σk 0 0 [(0, .ref (L.1 100)), (1, .int (nI t)), (2, .int (nI q)), (3, .int (nI y)), (4, .int (nI u)), (5, .int (nI (aW A))), (6, .int (nI i))] 92 [] := by
                  refine loopUp q ?_ ?_
                  · skip
                    intro σk hRk hSk
                    refine r_iload hX dX9_job_92 rfl ?_
                    refine r_iload_n hX dX9_job_94 rfl ?_
                    refine r_icmpN_ge hX dX9_job_95 (by omega) (by omega) (fun c9 => ?_) (fun c9 => absurd c9 (by omega))
                    refine r_iload hX dX9_job_133 rfl ?_
                    exact r_ireturn hX hQ dX9_job_135 ⟨Nat.le_of_ble_eq_true rfl, Nat.le_of_ble_eq_true rfl⟩ (PI.mk (by rw [oJob, if_pos ⟨c1, c2, by rw [job_h hql hq, c3, Bool.true_and, nI_add]; exact c5, c4⟩, if_neg c6, nI_clamp (by omega), if_neg (by omega), nI_clamp (by omega), nI_clamp (by omega), nI_clamp (by omega)]; exact ⟨rfl, hRk, hSk⟩))
                  · skip
                    intro i hk ih10 σk hRk hSk
                    refine r_iload hX dX9_job_92 rfl ?_
                    refine r_iload_n hX dX9_job_94 rfl ?_
                    refine r_icmpN_ge hX dX9_job_95 (by omega) (by omega) (fun c11 => absurd c11 (by omega)) (fun c11 => ?_)
                    refine r_aload_n hX dX9_job_98 rfl ?_
                    refine r_getR hX dX9_job_99 fl_X9_10 (hA.1 100 (8, 0) rfl) rfl (hA.2.1 100 0 200 rfl) ?_
                    refine r_getR hX dX9_job_102 fl_X9_86 (hC.1 0 (2, 0) rfl) rfl (hC.2.1 0 5 4 rfl) ?_
                    refine r_iconst hX (nI 2) dX9_job_105 rfl ?_
                    refine r_iload_n hX dX9_job_106 rfl ?_
                    refine r_iload hX dX9_job_107 rfl ?_
                    refine r_aload_n hX dX9_job_109 rfl ?_
                    refine r_getR hX dX9_job_110 fl_X9_10 (hA.1 100 (8, 0) rfl) rfl (hA.2.1 100 0 200 rfl) ?_
                    refine r_getIV hX dX9_job_113 fl_X9_107 (hC.1 0 (2, 0) rfl) rfl (nI (aN A)) (hRk.1.2.1.trans (by rw [(jobK_W A t y u i).2.1])) ?_
                    refine r_iremN hX dX9_job_116 (by omega) (by omega) (by omega) ?_
                    refine r_iload_n hX dX9_job_117 rfl ?_
                    refine r_iload hX dX9_job_118 rfl ?_
                    refine r_iaddN hX dX9_job_120 ?_
                    refine r_iload hX dX9_job_121 rfl ?_
                    refine r_callVI (As := [.int (nI 2), .int (nI t), .int (nI (i % (aN A))), .int (nI (y + i)), .int (nI u)]) (rest := []) hX (c_X8_write 200 hC σk (jobK A t y u i) hRk.2.1 (va_jobK hV ht (by omega) (by omega) (by omega) i (by omega) (by omega)) 2 t (i % (aN A)) (y + i) u) dX9_job_123 cb_X9_128 (hC.1 4 (7, 0) rfl) rfl rfl ⟨Nat.le_of_ble_eq_true rfl, Nat.le_of_ble_eq_true rfl⟩ ⟨Nat.le_of_ble_eq_true rfl, Nat.le_of_ble_eq_true rfl⟩ (Nat.le_of_ble_eq_true rfl) (fun r12 σ13 h14 => ?_)
                    obtain ⟨rfl, hw15, hf16⟩ := h14
                    unfold wrA at hw15
                    rw [if_pos (show aW (jobK A t y u i) < 24 by rw [(jobK_W A t y u i).1]; omega)] at hw15
                    have hRC17 : RC L σ13 200 (addW (jobK A t y u i) 2 t (i % (aN A)) (y + i) u) := RC.addW ⟨hRk.1, hRk.2.1, hRk.2.2⟩ (by omega) hw15 hf16
                    refine r_pop hX dX9_job_126 rfl ?_
                    refine r_iincN (n := 1) hX [(0, .ref (L.1 100)), (1, .int (nI t)), (2, .int (nI q)), (3, .int (nI y)), (4, .int (nI u)), (5, .int (nI (aW A))), (6, .int (nI (i + 1)))] dX9_job_127 rfl hN6 rfl ?_
                    refine r_goto hX dX9_job_130 ?_
                    exact At.to (ih10 _ hRC17 (Cb.tr hSk hf16.cb)) rfl rfl rfl
                exact At.to (P8 0 (Nat.zero_le _) σ ⟨h0, hW, hTx⟩ (Cb.rf 200 σ)) rfl rfl rfl
              · skip
                refine r_ldc hX dX9_job_74 ko_X9_242 ?_
                exact r_ireturn hX hQ dX9_job_76 ⟨Nat.le_of_ble_eq_true rfl, Nat.le_of_ble_eq_true rfl⟩ (PI.mk (by rw [oJob, if_pos ⟨c1, c2, by rw [job_h hql hq, c3, Bool.true_and, nI_add]; exact c5, c4⟩, if_neg c6, nI_clamp (by omega), if_pos (by omega)]; exact ⟨rfl, ⟨h0, hW, hTx⟩, (Cb.rf 200 σ)⟩))
            · skip
              refine r_ldc hX dX9_job_57 ko_X9_236 ?_
              exact r_ireturn hX hQ dX9_job_59 ⟨Nat.le_of_ble_eq_true rfl, Nat.le_of_ble_eq_true rfl⟩ (PI.mk (by rw [oJob, if_pos ⟨c1, c2, by rw [job_h hql hq, c3, Bool.true_and, nI_add]; exact c5, c4⟩, if_pos c6]; exact ⟨rfl, ⟨h0, hW, hTx⟩, (Cb.rf 200 σ)⟩))
          · skip
            refine r_ldc hX dX9_job_44 ko_X9_75 ?_
            exact r_ireturn hX hQ dX9_job_46 ⟨Nat.le_of_ble_eq_true rfl, Nat.le_of_ble_eq_true rfl⟩ (PI.mk (by rw [oJob, if_neg (fun e => by have e := e.2.2.1; rw [job_h hql hq, c3, Bool.true_and, nI_add, c5] at e; cases e)]; exact ⟨rfl, ⟨h0, hW, hTx⟩, (Cb.rf 200 σ)⟩))

set_option maxHeartbeats 4000000 in
set_option maxRecDepth 100000 in
theorem c_X9_seed {l : Launch} {D : Ds} {L : La}  (hA : CAt L) (σ : Me) (A : Al) (h0 : R0 σ 200 A) (hW : RW σ 200 A) (hTx : RX' L σ 200 A) (hV : Va A) (v : Int32) : Ct l yX9_seed cX9_seed 3 (some .int) { frames := 0, cells := 0, slots := 0, locals := 0 } D L σ [.ref (L.1 100), .int v] (PI L (fun r σ2 => r = (oSeed A v).1 ∧ RC L σ2 200 (oSeed A v).2 ∧ Cb 200 σ σ2)) := by
  refine Ct.of (by decide) (Nat.le_of_ble_eq_true rfl) ?_
  intro X hl hD hnl hX0 hQ
  have hX : Ok X cX9_seed RX9 "seed" { frames := 0, cells := 0, slots := 0, locals := 0 } (some .int) := hX0
  have hN2 : 2 < xn X := by rw [hnl]; decide
  have hC := hA.2.2
  have hbb := hC.2.2
  have hW24 := hV.2.2.1
  have hT6 := hV.1
  have hN12 := hV.2.1
  have hX14 := hV.2.2.2.1
  show At X L σ 0 0 [(0, .ref (L.1 100)), (1, .int v)] 0 []
  refine r_aload_n hX dX9_seed_0 rfl ?_
  refine r_getR hX dX9_seed_1 fl_X9_10 (hA.1 100 (8, 0) rfl) rfl (hA.2.1 100 0 200 rfl) ?_
  refine r_getIV hX dX9_seed_4 fl_X9_243 (hC.1 0 (2, 0) rfl) rfl (aZ A) h0.2.2.2.1 ?_
  refine r_istore_n hX [(0, .ref (L.1 100)), (1, .int v), (2, .int (aZ A))] dX9_seed_7 hN2 rfl ?_
  refine r_aload_n hX dX9_seed_8 rfl ?_
  refine r_getR hX dX9_seed_9 fl_X9_10 (hA.1 100 (8, 0) rfl) rfl (hA.2.1 100 0 200 rfl) ?_
  refine r_iload_n hX dX9_seed_12 rfl ?_
  refine r_putI hX dX9_seed_13 fl_X9_243 (hC.1 0 (2, 0) rfl) rfl rfl rfl rfl ?_
  refine r_iload_n hX dX9_seed_16 rfl ?_
  exact r_ireturn hX hQ dX9_seed_17 ⟨Nat.le_of_ble_eq_true rfl, Nat.le_of_ble_eq_true rfl⟩ (PI.mk ⟨rfl, ⟨r0_setZ h0 _, RW.al (RW.kept hW (fun c i hc => up_n (by omega))) rfl rfl, RX'.al (RX'.kept hTx (fun c i h1 h2 => up_n (by omega))) rfl⟩, (Cb.up (Cb.rf 200 σ) (by omega))⟩)

set_option maxHeartbeats 4000000 in
set_option maxRecDepth 100000 in
theorem c_X9_textTold {l : Launch} {D : Ds} {L : La}  (hA : CAt L) (σ : Me) (A : Al) (h0 : R0 σ 200 A) (hW : RW σ 200 A) (hTx : RX' L σ 200 A) (hV : Va A) (v wh : Int32) : Ct l yX9_textTold cX9_textTold 4 (some .int) { frames := 1, cells := 0, slots := 0, locals := 22 } D L σ [.ref (L.1 100), .int v, .int wh] (PF L σ (oTextTold A v wh)) := by
  refine Ct.of (by decide) (Nat.le_of_ble_eq_true rfl) ?_
  intro X hl hD hnl hX0 hQ
  have hX : Ok X cX9_textTold RX9 "textTold" { frames := 1, cells := 0, slots := 0, locals := 22 } (some .int) := hX0
  have hN3 : 3 < xn X := by rw [hnl]; decide
  have hC := hA.2.2
  have hbb := hC.2.2
  have hW24 := hV.2.2.1
  have hT6 := hV.1
  have hN12 := hV.2.1
  have hX14 := hV.2.2.2.1
  show At X L σ 0 0 [(0, .ref (L.1 100)), (1, .int v), (2, .int wh)] 0 []
  refine r_iload_n hX dX9_textTold_0 rfl ?_
  refine r_iconst hX (nI 0) dX9_textTold_1 rfl ?_
  refine r_aload_n hX dX9_textTold_2 rfl ?_
  refine r_getR hX dX9_textTold_3 fl_X9_10 (hA.1 100 (8, 0) rfl) rfl (hA.2.1 100 0 200 rfl) ?_
  refine r_getIV hX dX9_textTold_6 fl_X9_261 (hC.1 0 (2, 0) rfl) rfl (nI ((aX A).length)) h0.2.2.1 ?_
  refine r_iconst hX (nI 1) dX9_textTold_9 rfl ?_
  refine r_isub hX dX9_textTold_10 ?_
  refine r_callSF (As := [.int v, .int (nI 0), .int ((nI ((aX A).length)) - (nI 1))]) (rest := []) hX (c_X9_within σ v (nI 0) ((nI ((aX A).length)) - (nI 1))) dX9_textTold_11 cb_X9_67 rfl rfl ⟨Nat.le_of_ble_eq_true rfl, Nat.le_of_ble_eq_true rfl⟩ ⟨Nat.le_of_ble_eq_true rfl, Nat.le_of_ble_eq_true rfl⟩ (Nat.le_of_ble_eq_true rfl) ?_
  refine r_ifB_eq hX dX9_textTold_14 (fun c1 => ?_) (fun c1 => ?_)
  · skip
    refine r_ldc hX dX9_textTold_26 ko_X9_75 ?_
    exact r_ireturn hX hQ dX9_textTold_28 ⟨Nat.le_of_ble_eq_true rfl, Nat.le_of_ble_eq_true rfl⟩ (PF.mk (by rw [oTextTold, if_neg (fun e => by have e := e.1; unfold isB at e; rw [c1] at e; cases e)]))
  · skip
    obtain ⟨x, hxl, rfl⟩ := isB_nat (n := (aX A).length) c1 (by omega)
    obtain ⟨o, ho1, ho3, ho, hx, hT⟩ := hTx x hxl
    refine r_iload_n hX dX9_textTold_17 rfl ?_
    refine r_iconst hX (nI 0) dX9_textTold_18 rfl ?_
    refine r_iconst hX (nI 1) dX9_textTold_19 rfl ?_
    refine r_callSF (As := [.int wh, .int (nI 0), .int (nI 1)]) (rest := []) hX (c_X9_within σ wh (nI 0) (nI 1)) dX9_textTold_20 cb_X9_67 rfl rfl ⟨Nat.le_of_ble_eq_true rfl, Nat.le_of_ble_eq_true rfl⟩ ⟨Nat.le_of_ble_eq_true rfl, Nat.le_of_ble_eq_true rfl⟩ (Nat.le_of_ble_eq_true rfl) ?_
    refine r_ifB_ne hX dX9_textTold_23 (fun c2 => ?_) (fun c2 => ?_)
    · skip
      obtain ⟨r, hrl, hr, rfl⟩ := inB_nat c2 (by decide) (by decide)
      refine r_aload_n hX dX9_textTold_29 rfl ?_
      refine r_getR hX dX9_textTold_30 fl_X9_10 (hA.1 100 (8, 0) rfl) rfl (hA.2.1 100 0 200 rfl) ?_
      refine r_getR hX dX9_textTold_33 fl_X9_264 (hC.1 0 (2, 0) rfl) rfl (hC.2.1 0 7 5 rfl) ?_
      refine r_iload_n hX dX9_textTold_36 rfl ?_
      refine r_aald hX dX9_textTold_37 (hC.1 5 (15, 14) rfl) (by decide) (by decide) (by decide) (by omega) (.ref (L.1 o)) (by rw [ho]; rfl) ?_
      refine r_astore_n hX [(0, .ref (L.1 100)), (1, .int (nI x)), (2, .int (nI r)), (3, .ref (L.1 o))] dX9_textTold_38 hN3 rfl ?_
      refine r_aload_n hX dX9_textTold_39 rfl ?_
      refine r_ifnonnull hX dX9_textTold_40 ?_
      refine r_iload_n hX dX9_textTold_46 rfl ?_
      refine r_ifN_ne hX dX9_textTold_47 (by omega) (fun c3 => ?_) (fun c3 => ?_)
      · skip
        refine r_aload_n hX dX9_textTold_57 rfl ?_
        refine r_getIV hX dX9_textTold_58 fl_X9_273 hx.1 rfl (nI ((tx A x).2.1)) hT.2.1 ?_
        exact r_ireturn hX hQ dX9_textTold_61 ⟨Nat.le_of_ble_eq_true rfl, Nat.le_of_ble_eq_true rfl⟩ (PF.mk (by rw [oTextTold, if_pos ⟨show isB _ _ = true from c1, c2⟩, nI_clamp (by omega), if_neg (by rw [show r = 1 by omega]; decide)]))
      · skip
        refine r_aload_n hX dX9_textTold_50 rfl ?_
        refine r_getIV hX dX9_textTold_51 fl_X9_268 hx.1 rfl (nI ((tx A x).1)) hT.1 ?_
        refine r_goto hX dX9_textTold_54 ?_
        exact r_ireturn hX hQ dX9_textTold_61 ⟨Nat.le_of_ble_eq_true rfl, Nat.le_of_ble_eq_true rfl⟩ (PF.mk (by rw [oTextTold, if_pos ⟨show isB _ _ = true from c1, c2⟩, nI_clamp (by omega), if_pos (by rw [show r = 0 by omega])]))
    · skip
      refine r_ldc hX dX9_textTold_26 ko_X9_75 ?_
      exact r_ireturn hX hQ dX9_textTold_28 ⟨Nat.le_of_ble_eq_true rfl, Nat.le_of_ble_eq_true rfl⟩ (PF.mk (by rw [oTextTold, if_neg (fun e => by have e := e.2; rw [c2] at e; cases e)]))

set_option maxHeartbeats 4000000 in
set_option maxRecDepth 100000 in
theorem c_X9_why {l : Launch} {D : Ds} {L : La}  (hA : CAt L) (σ : Me) (A : Al) (h0 : R0 σ 200 A) (hW : RW σ 200 A) (hTx : RX' L σ 200 A) (hV : Va A) (v : Int32) : Ct l yX9_why cX9_why 2 (some .int) { frames := 1, cells := 0, slots := 0, locals := 22 } D L σ [.ref (L.1 100), .int v] (PF L σ (oWhy A v)) := by
  refine Ct.of (by decide) (Nat.le_of_ble_eq_true rfl) ?_
  intro X hl hD hnl hX0 hQ
  have hX : Ok X cX9_why RX9 "why" { frames := 1, cells := 0, slots := 0, locals := 22 } (some .int) := hX0
  have hC := hA.2.2
  have hbb := hC.2.2
  have hW24 := hV.2.2.1
  have hT6 := hV.1
  have hN12 := hV.2.1
  have hX14 := hV.2.2.2.1
  show At X L σ 0 0 [(0, .ref (L.1 100)), (1, .int v)] 0 []
  refine r_iload_n hX dX9_why_0 rfl ?_
  refine r_iconst hX (nI 0) dX9_why_1 rfl ?_
  refine r_iconst hX (nI 2) dX9_why_2 rfl ?_
  refine r_callSF (As := [.int v, .int (nI 0), .int (nI 2)]) (rest := []) hX (c_X9_within σ v (nI 0) (nI 2)) dX9_why_3 cb_X9_67 rfl rfl ⟨Nat.le_of_ble_eq_true rfl, Nat.le_of_ble_eq_true rfl⟩ ⟨Nat.le_of_ble_eq_true rfl, Nat.le_of_ble_eq_true rfl⟩ (Nat.le_of_ble_eq_true rfl) ?_
  refine r_ifB_ne hX dX9_why_6 (fun c1 => ?_) (fun c1 => ?_)
  · skip
    obtain ⟨q, hql, hq, rfl⟩ := inB_nat c1 (by decide) (by decide)
    rcases hO : lst A q (aX A).length with _ | x
    · skip
      refine r_aload_n hX dX9_why_12 rfl ?_
      refine r_getR hX dX9_why_13 fl_X9_10 (hA.1 100 (8, 0) rfl) rfl (hA.2.1 100 0 200 rfl) ?_
      refine r_getR hX dX9_why_16 fl_X9_276 (hC.1 0 (2, 0) rfl) rfl (hC.2.1 0 8 6 rfl) ?_
      refine r_iload_n hX dX9_why_19 rfl ?_
      refine r_aldN hX dX9_why_20 (hC.1 6 (10, 3) rfl) (by decide) (by omega) (-1) ((h0.2.2.2.2.2.2.2 q (by omega)).trans (by rw [hO]; rfl)) ?_
      refine r_if_ge hX dX9_why_21 (fun c2 => absurd c2 (by decide)) (fun c2 => ?_)
      refine r_ldc hX dX9_why_24 ko_X9_195 ?_
      refine r_goto hX dX9_why_26 ?_
      exact r_ireturn hX hQ dX9_why_38 ⟨Nat.le_of_ble_eq_true rfl, Nat.le_of_ble_eq_true rfl⟩ (PF.mk (by rw [oWhy, if_pos c1, nI_clamp (by omega), hO]; rfl))
    · skip
      obtain ⟨hxl, hxk⟩ := lst_lt hO
      refine r_aload_n hX dX9_why_12 rfl ?_
      refine r_getR hX dX9_why_13 fl_X9_10 (hA.1 100 (8, 0) rfl) rfl (hA.2.1 100 0 200 rfl) ?_
      refine r_getR hX dX9_why_16 fl_X9_276 (hC.1 0 (2, 0) rfl) rfl (hC.2.1 0 8 6 rfl) ?_
      refine r_iload_n hX dX9_why_19 rfl ?_
      refine r_aldN hX dX9_why_20 (hC.1 6 (10, 3) rfl) (by decide) (by omega) (nI x) ((h0.2.2.2.2.2.2.2 q (by omega)).trans (by rw [hO]; rfl)) ?_
      refine r_ifN_ge hX dX9_why_21 (by omega) ?_
      refine r_aload_n hX dX9_why_29 rfl ?_
      refine r_getR hX dX9_why_30 fl_X9_10 (hA.1 100 (8, 0) rfl) rfl (hA.2.1 100 0 200 rfl) ?_
      refine r_getR hX dX9_why_33 fl_X9_276 (hC.1 0 (2, 0) rfl) rfl (hC.2.1 0 8 6 rfl) ?_
      refine r_iload_n hX dX9_why_36 rfl ?_
      refine r_aldN hX dX9_why_37 (hC.1 6 (10, 3) rfl) (by decide) (by omega) (nI x) ((h0.2.2.2.2.2.2.2 q (by omega)).trans (by rw [hO]; rfl)) ?_
      exact r_ireturn hX hQ dX9_why_38 ⟨Nat.le_of_ble_eq_true rfl, Nat.le_of_ble_eq_true rfl⟩ (PF.mk (by rw [oWhy, if_pos c1, nI_clamp (by omega), hO]; rfl))
  · skip
    refine r_ldc hX dX9_why_9 ko_X9_75 ?_
    exact r_ireturn hX hQ dX9_why_11 ⟨Nat.le_of_ble_eq_true rfl, Nat.le_of_ble_eq_true rfl⟩ (PF.mk (by rw [oWhy, if_neg (by rw [c1]; decide)]))
