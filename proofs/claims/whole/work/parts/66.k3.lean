set_option maxHeartbeats 4000000 in
set_option maxRecDepth 100000 in
theorem c_X8_timesAlike {l : Launch} {D : Ds} {L : La}  (b : Nat) (hC : RAt L b) (σ : Me) (A : Al) (hW : RW σ b A) (hV : Va A) (o1 o2 w : Nat) (h1 : o1 < 2 ^ 31) (h2 : o2 < 2 ^ 31) (hw : w < 2 ^ 31) : Ct l yX8_timesAlike cX8_timesAlike 7 (some .int) { frames := 2, cells := 0, slots := 0, locals := 44 } D L σ [.ref (L.1 (b + 4)), .int (nI o1), .int (nI o2), .int (nI w)] (PF L σ (nI (alN A o1 o2 w))) := by
  refine Ct.of (by decide) (Nat.le_of_ble_eq_true rfl) ?_
  intro X hl hD hnl hX0 hQ
  have hX : Ok X cX8_timesAlike RX8 "timesAlike" { frames := 2, cells := 0, slots := 0, locals := 44 } (some .int) := hX0
  have hN4 : 4 < xn X := by rw [hnl]; decide
  have hN5 : 5 < xn X := by rw [hnl]; decide
  have hN6 : 6 < xn X := by rw [hnl]; decide
  have hW24 := hV.2.2.1
  have hT6 := hV.1
  show At X L σ 0 0 [(0, .ref (L.1 (b + 4))), (1, .int (nI o1)), (2, .int (nI o2)), (3, .int (nI w))] 0 []
  refine r_iconst hX (nI 0) dX8_timesAlike_0 rfl ?_
  refine r_istore hX [(0, .ref (L.1 (b + 4))), (1, .int (nI o1)), (2, .int (nI o2)), (3, .int (nI w)), (4, .int (nI 0))] dX8_timesAlike_1 hN4 rfl ?_
  refine r_iconst hX (nI 0) dX8_timesAlike_3 rfl ?_
  refine r_istore hX [(0, .ref (L.1 (b + 4))), (1, .int (nI o1)), (2, .int (nI o2)), (3, .int (nI w)), (4, .int (nI 0)), (5, .int (nI 0))] dX8_timesAlike_4 hN5 rfl ?_
  have P1 : ∀ i, i ≤ aW A → At X L σ 0 0 [(0, .ref (L.1 (b + 4))), (1, .int (nI o1)), (2, .int (nI o2)), (3, .int (nI w)), (4, .int (nI (mB (fun t => anyB (alR A o1 o2 t w) i)))), (5, .int (nI i))] 6 [] := by
    refine loopUp (aW A) ?_ ?_
    · skip
      refine r_iload hX dX8_timesAlike_6 rfl ?_
      refine r_aload_n hX dX8_timesAlike_8 rfl ?_
      refine r_getIV hX dX8_timesAlike_9 fl_X8_9 (hC.1 4 (7, 0) rfl) rfl (nI (aW A)) hW.1 ?_
      refine r_icmpN_ge hX dX8_timesAlike_12 (by omega) (by omega) (fun c2 => ?_) (fun c2 => absurd c2 (by omega))
      refine r_iload hX dX8_timesAlike_87 rfl ?_
      refine r_callSF (As := [.int (nI (mB (fun t => anyB (alR A o1 o2 t w) (aW A))))]) (rest := []) hX (c_J6_bitCount_0f7a4 σ (mB (fun t => anyB (alR A o1 o2 t w) (aW A))) (by have := mB_lt (fun t => anyB (alR A o1 o2 t w) (aW A)); omega)) dX8_timesAlike_89 cb_X8_75 rfl rfl ⟨Nat.le_of_ble_eq_true rfl, Nat.le_of_ble_eq_true rfl⟩ ⟨Nat.le_of_ble_eq_true rfl, Nat.le_of_ble_eq_true rfl⟩ (Nat.le_of_ble_eq_true rfl) ?_
      exact r_ireturn hX hQ dX8_timesAlike_92 ⟨Nat.le_of_ble_eq_true rfl, Nat.le_of_ble_eq_true rfl⟩ (PF.mk (congrArg nI (tm_fin hV o1 o2 w)))
    · skip
      intro i hi ih3
      have hwi := hV.2.2.2.2.2.2.1 i hi
      have hN12 := hV.2.1
      refine r_iload hX dX8_timesAlike_6 rfl ?_
      refine r_aload_n hX dX8_timesAlike_8 rfl ?_
      refine r_getIV hX dX8_timesAlike_9 fl_X8_9 (hC.1 4 (7, 0) rfl) rfl (nI (aW A)) hW.1 ?_
      refine r_icmpN_ge hX dX8_timesAlike_12 (by omega) (by omega) (fun c4 => absurd c4 (by omega)) (fun c4 => ?_)
      refine r_iconst hX (nI 0) dX8_timesAlike_15 rfl ?_
      refine r_istore hX [(0, .ref (L.1 (b + 4))), (1, .int (nI o1)), (2, .int (nI o2)), (3, .int (nI w)), (4, .int (nI (mB (fun t => anyB (alR A o1 o2 t w) i)))), (5, .int (nI i)), (6, .int (nI 0))] dX8_timesAlike_16 hN6 rfl ?_
      rw [show mB (fun t => anyB (alR A o1 o2 t w) i) = mB (fun t => tmP A o1 o2 w i 0 t) from mB_cg (fun t => (tm_0 A o1 o2 w i t).symm)]
      have P5 : ∀ j, j ≤ aW A → At X L σ 0 0 [(0, .ref (L.1 (b + 4))), (1, .int (nI o1)), (2, .int (nI o2)), (3, .int (nI w)), (4, .int (nI (mB (fun t => tmP A o1 o2 w i j t)))), (5, .int (nI i)), (6, .int (nI j))] 18 [] := by
        refine loopUp (aW A) ?_ ?_
        · skip
          refine r_aload_n hX dX8_timesAlike_18 rfl ?_
          refine r_getR hX dX8_timesAlike_19 fl_X8_22 (hC.1 4 (7, 0) rfl) rfl (hC.2.1 4 3 11 rfl) ?_
          refine r_iload hX dX8_timesAlike_22 rfl ?_
          refine r_aldN hX dX8_timesAlike_24 (hC.1 11 (10, 24) rfl) (by decide) (by omega) (nI (aF A i 2)) (hW.2.2.2.1 i (by omega)) ?_
          refine r_iload_n hX dX8_timesAlike_25 rfl ?_
          refine r_icmpN_ne hX dX8_timesAlike_26 (by omega) (by omega) (fun c6 => ?_) (fun c6 => ?_)
          · skip
            refine r_iincN (n := 1) hX [(0, .ref (L.1 (b + 4))), (1, .int (nI o1)), (2, .int (nI o2)), (3, .int (nI w)), (4, .int (nI (mB (fun t => tmP A o1 o2 w i (aW A) t)))), (5, .int (nI (i + 1))), (6, .int (nI (aW A)))] dX8_timesAlike_81 rfl hN5 rfl ?_
            refine r_goto hX dX8_timesAlike_84 ?_
            have q7 : mB (fun t => anyB (alR A o1 o2 t w) (i + 1)) = mB (fun t => tmP A o1 o2 w i (aW A) t) := (mB_cg (fun t => ((tm_n A o1 o2 w i t).symm.trans (tm_no c6 _ t)).trans (tm_no c6 _ t).symm))
            exact At.less (At.to (ls := [(0, .ref (L.1 (b + 4))), (1, .int (nI o1)), (2, .int (nI o2)), (3, .int (nI w)), (4, .int (nI (mB (fun t => tmP A o1 o2 w i (aW A) t)))), (5, .int (nI (i + 1)))]) ih3 (by rw [q7]) rfl rfl) (by simp)
          · skip
            refine r_iload hX dX8_timesAlike_29 rfl ?_
            refine r_aload_n hX dX8_timesAlike_31 rfl ?_
            refine r_getIV hX dX8_timesAlike_32 fl_X8_9 (hC.1 4 (7, 0) rfl) rfl (nI (aW A)) hW.1 ?_
            refine r_icmpN_ge hX dX8_timesAlike_35 (by omega) (by omega) (fun c8 => ?_) (fun c8 => absurd c8 (by omega))
            refine r_iincN (n := 1) hX [(0, .ref (L.1 (b + 4))), (1, .int (nI o1)), (2, .int (nI o2)), (3, .int (nI w)), (4, .int (nI (mB (fun t => tmP A o1 o2 w i (aW A) t)))), (5, .int (nI (i + 1))), (6, .int (nI (aW A)))] dX8_timesAlike_81 rfl hN5 rfl ?_
            refine r_goto hX dX8_timesAlike_84 ?_
            have q9 : mB (fun t => anyB (alR A o1 o2 t w) (i + 1)) = mB (fun t => tmP A o1 o2 w i (aW A) t) := (mB_cg (fun t => (tm_n A o1 o2 w i t).symm))
            exact At.less (At.to (ls := [(0, .ref (L.1 (b + 4))), (1, .int (nI o1)), (2, .int (nI o2)), (3, .int (nI w)), (4, .int (nI (mB (fun t => tmP A o1 o2 w i (aW A) t)))), (5, .int (nI (i + 1)))]) ih3 (by rw [q9]) rfl rfl) (by simp)
        · skip
          intro j hj ih10
          have hwj := hV.2.2.2.2.2.2.1 j hj
          refine r_aload_n hX dX8_timesAlike_18 rfl ?_
          refine r_getR hX dX8_timesAlike_19 fl_X8_22 (hC.1 4 (7, 0) rfl) rfl (hC.2.1 4 3 11 rfl) ?_
          refine r_iload hX dX8_timesAlike_22 rfl ?_
          refine r_aldN hX dX8_timesAlike_24 (hC.1 11 (10, 24) rfl) (by decide) (by omega) (nI (aF A i 2)) (hW.2.2.2.1 i (by omega)) ?_
          refine r_iload_n hX dX8_timesAlike_25 rfl ?_
          refine r_icmpN_ne hX dX8_timesAlike_26 (by omega) (by omega) (fun c11 => ?_) (fun c11 => ?_)
          · skip
            refine r_iincN (n := 1) hX [(0, .ref (L.1 (b + 4))), (1, .int (nI o1)), (2, .int (nI o2)), (3, .int (nI w)), (4, .int (nI (mB (fun t => tmP A o1 o2 w i j t)))), (5, .int (nI (i + 1))), (6, .int (nI j))] dX8_timesAlike_81 rfl hN5 rfl ?_
            refine r_goto hX dX8_timesAlike_84 ?_
            have q12 : mB (fun t => anyB (alR A o1 o2 t w) (i + 1)) = mB (fun t => tmP A o1 o2 w i j t) := (mB_cg (fun t => ((tm_n A o1 o2 w i t).symm.trans (tm_no c11 _ t)).trans (tm_no c11 _ t).symm))
            exact At.less (At.to (ls := [(0, .ref (L.1 (b + 4))), (1, .int (nI o1)), (2, .int (nI o2)), (3, .int (nI w)), (4, .int (nI (mB (fun t => tmP A o1 o2 w i j t)))), (5, .int (nI (i + 1)))]) ih3 (by rw [q12]) rfl rfl) (by simp)
          · skip
            refine r_iload hX dX8_timesAlike_29 rfl ?_
            refine r_aload_n hX dX8_timesAlike_31 rfl ?_
            refine r_getIV hX dX8_timesAlike_32 fl_X8_9 (hC.1 4 (7, 0) rfl) rfl (nI (aW A)) hW.1 ?_
            refine r_icmpN_ge hX dX8_timesAlike_35 (by omega) (by omega) (fun c13 => absurd c13 (by omega)) (fun c13 => ?_)
            refine r_aload_n hX dX8_timesAlike_38 rfl ?_
            refine r_getR hX dX8_timesAlike_39 fl_X8_22 (hC.1 4 (7, 0) rfl) rfl (hC.2.1 4 3 11 rfl) ?_
            refine r_iload hX dX8_timesAlike_42 rfl ?_
            refine r_aldN hX dX8_timesAlike_44 (hC.1 11 (10, 24) rfl) (by decide) (by omega) (nI (aF A j 2)) (hW.2.2.2.1 j (by omega)) ?_
            refine r_iload_n hX dX8_timesAlike_45 rfl ?_
            refine r_icmpN_ne hX dX8_timesAlike_46 (by omega) (by omega) (fun c14 => ?_) (fun c14 => ?_)
            · skip
              refine r_iincN (n := 1) hX [(0, .ref (L.1 (b + 4))), (1, .int (nI o1)), (2, .int (nI o2)), (3, .int (nI w)), (4, .int (nI (mB (fun t => tmP A o1 o2 w i j t)))), (5, .int (nI i)), (6, .int (nI (j + 1)))] dX8_timesAlike_75 rfl hN6 rfl ?_
              refine r_goto hX dX8_timesAlike_78 ?_
              have q15 : mB (fun t => tmP A o1 o2 w i (j + 1) t) = mB (fun t => tmP A o1 o2 w i j t) := (mB_cg (tm_s0 (Or.inl c14)))
              exact At.to ih10 (by rw [q15]) rfl rfl
            · skip
              refine r_aload_n hX dX8_timesAlike_49 rfl ?_
              refine r_iload hX dX8_timesAlike_50 rfl ?_
              refine r_iload hX dX8_timesAlike_52 rfl ?_
              refine r_iload_n hX dX8_timesAlike_54 rfl ?_
              refine r_callVF (As := [.int (nI i), .int (nI j), .int (nI w)]) (rest := []) hX (c_X8_areAlike b hC σ A hW hV i j w (by omega) (by omega) (by omega)) dX8_timesAlike_55 cb_X8_71 (hC.1 4 (7, 0) rfl) rfl rfl ⟨Nat.le_of_ble_eq_true rfl, Nat.le_of_ble_eq_true rfl⟩ ⟨Nat.le_of_ble_eq_true rfl, Nat.le_of_ble_eq_true rfl⟩ (Nat.le_of_ble_eq_true rfl) ?_
              refine r_ifB_eq hX dX8_timesAlike_58 (fun c16 => ?_) (fun c16 => ?_)
              · skip
                refine r_iincN (n := 1) hX [(0, .ref (L.1 (b + 4))), (1, .int (nI o1)), (2, .int (nI o2)), (3, .int (nI w)), (4, .int (nI (mB (fun t => tmP A o1 o2 w i j t)))), (5, .int (nI i)), (6, .int (nI (j + 1)))] dX8_timesAlike_75 rfl hN6 rfl ?_
                refine r_goto hX dX8_timesAlike_78 ?_
                have q17 : mB (fun t => tmP A o1 o2 w i (j + 1) t) = mB (fun t => tmP A o1 o2 w i j t) := (mB_cg (tm_s0 (Or.inr c16)))
                exact At.to ih10 (by rw [q17]) rfl rfl
              · skip
                refine r_iload hX dX8_timesAlike_61 rfl ?_
                refine r_iconst hX (nI 1) dX8_timesAlike_63 rfl ?_
                refine r_aload_n hX dX8_timesAlike_64 rfl ?_
                refine r_getR hX dX8_timesAlike_65 fl_X8_19 (hC.1 4 (7, 0) rfl) rfl (hC.2.1 4 2 10 rfl) ?_
                refine r_iload hX dX8_timesAlike_68 rfl ?_
                refine r_aldN hX dX8_timesAlike_70 (hC.1 10 (10, 24) rfl) (by decide) (by omega) (nI (aF A i 1)) (hW.2.2.1 i (by omega)) ?_
                refine r_ishl hX dX8_timesAlike_71 ?_
                rw [shl1 (aF A i 1) (by omega)]
                refine r_ior hX dX8_timesAlike_72 ?_
                refine r_istore hX [(0, .ref (L.1 (b + 4))), (1, .int (nI o1)), (2, .int (nI o2)), (3, .int (nI w)), (4, .int ((nI (mB (fun t => tmP A o1 o2 w i j t))) ||| (nI (2 ^ aF A i 1)))), (5, .int (nI i)), (6, .int (nI j))] dX8_timesAlike_73 hN4 rfl ?_
                refine r_iincN (n := 1) hX [(0, .ref (L.1 (b + 4))), (1, .int (nI o1)), (2, .int (nI o2)), (3, .int (nI w)), (4, .int ((nI (mB (fun t => tmP A o1 o2 w i j t))) ||| (nI (2 ^ aF A i 1)))), (5, .int (nI i)), (6, .int (nI (j + 1)))] dX8_timesAlike_75 rfl hN6 rfl ?_
                refine r_goto hX dX8_timesAlike_78 ?_
                have q18 : nI (mB (fun t => tmP A o1 o2 w i (j + 1) t)) = ((nI (mB (fun t => tmP A o1 o2 w i j t))) ||| (nI (2 ^ aF A i 1))) := ((congrArg nI (mB_cg (tm_s1 c11 c14 c16))).trans (mB_or _ (by omega)).symm)
                exact At.to ih10 (by rw [q18]) rfl rfl
      exact At.to (P5 0 (Nat.zero_le _)) rfl rfl rfl
  exact At.to (P1 0 (Nat.zero_le _)) rfl rfl rfl

set_option maxHeartbeats 4000000 in
set_option maxRecDepth 100000 in
theorem c_X8_waveFrom {l : Launch} {D : Ds} {L : La}  (b : Nat) (hC : RAt L b) (σ : Me) (A : Al) (hW : RW σ b A) (hV : Va A) (w : Nat) (hw : 1 ≤ w) (hw2 : w ≤ 1000) (hW0 : 0 < aW A) : Ct l yX8_waveFrom cX8_waveFrom 7 (some .int) { frames := 1, cells := 0, slots := 0, locals := 24 } D L σ [.ref (L.1 (b + 4)), .int (nI w)] (PF L σ (nI (wvN A w 999))) := by
  refine Ct.of (by decide) (Nat.le_of_ble_eq_true rfl) ?_
  intro X hl hD hnl hX0 hQ
  have hX : Ok X cX8_waveFrom RX8 "waveFrom" { frames := 1, cells := 0, slots := 0, locals := 24 } (some .int) := hX0
  have hN2 : 2 < xn X := by rw [hnl]; decide
  have hN3 : 3 < xn X := by rw [hnl]; decide
  have hN4 : 4 < xn X := by rw [hnl]; decide
  have hN5 : 5 < xn X := by rw [hnl]; decide
  have hN6 : 6 < xn X := by rw [hnl]; decide
  have hW24 := hV.2.2.1
  show At X L σ 0 0 [(0, .ref (L.1 (b + 4))), (1, .int (nI w))] 0 []
  refine r_iconst hX (nI 0) dX8_waveFrom_0 rfl ?_
  refine r_istore_n hX [(0, .ref (L.1 (b + 4))), (1, .int (nI w)), (2, .int (nI 0))] dX8_waveFrom_1 hN2 rfl ?_
  refine r_iconst hX (nI 0) dX8_waveFrom_2 rfl ?_
  refine r_istore_n hX [(0, .ref (L.1 (b + 4))), (1, .int (nI w)), (2, .int (nI 0)), (3, .int (nI 0))] dX8_waveFrom_3 hN3 rfl ?_
  refine r_iconst hX (nI 0) dX8_waveFrom_4 rfl ?_
  refine r_istore hX [(0, .ref (L.1 (b + 4))), (1, .int (nI w)), (2, .int (nI 0)), (3, .int (nI 0)), (4, .int (nI 0))] dX8_waveFrom_5 hN4 rfl ?_
  have P1 : ∀ i, i ≤ aW A → At X L σ 0 0 [(0, .ref (L.1 (b + 4))), (1, .int (nI w)), (2, .int (nI ((wfK A w i).1))), (3, .int (nI ((wfK A w i).2))), (4, .int (nI i))] 7 [] := by
    refine loopUp (aW A) ?_ ?_
    · skip
      refine r_iload hX dX8_waveFrom_7 rfl ?_
      refine r_aload_n hX dX8_waveFrom_9 rfl ?_
      refine r_getIV hX dX8_waveFrom_10 fl_X8_9 (hC.1 4 (7, 0) rfl) rfl (nI (aW A)) hW.1 ?_
      refine r_icmpN_ge hX dX8_waveFrom_13 (by omega) (by omega) (fun c2 => ?_) (fun c2 => absurd c2 (by omega))
      refine r_iload_n hX dX8_waveFrom_72 rfl ?_
      exact r_ireturn hX hQ dX8_waveFrom_73 ⟨Nat.le_of_ble_eq_true rfl, Nat.le_of_ble_eq_true rfl⟩ (PF.mk (congrArg nI (wfK_wv hV hw hW0)))
    · skip
      intro i hi ih3
      have hwi := hV.2.2.2.2.2.2.1 i hi
      have hwk := wfK_le hV hw i (by omega)
      have hwl := wiN_le A (aF A i 3 + 1 - w) w (aW A)
      refine r_iload hX dX8_waveFrom_7 rfl ?_
      refine r_aload_n hX dX8_waveFrom_9 rfl ?_
      refine r_getIV hX dX8_waveFrom_10 fl_X8_9 (hC.1 4 (7, 0) rfl) rfl (nI (aW A)) hW.1 ?_
      refine r_icmpN_ge hX dX8_waveFrom_13 (by omega) (by omega) (fun c4 => absurd c4 (by omega)) (fun c4 => ?_)
      refine r_iconst hX (nI 0) dX8_waveFrom_16 rfl ?_
      refine r_aload_n hX dX8_waveFrom_17 rfl ?_
      refine r_getR hX dX8_waveFrom_18 fl_X8_25 (hC.1 4 (7, 0) rfl) rfl (hC.2.1 4 4 12 rfl) ?_
      refine r_iload hX dX8_waveFrom_21 rfl ?_
      refine r_aldN hX dX8_waveFrom_23 (hC.1 12 (10, 24) rfl) (by decide) (by omega) (nI (aF A i 3)) (hW.2.2.2.2.1 i (by omega)) ?_
      refine r_iload_n hX dX8_waveFrom_24 rfl ?_
      refine r_isub hX dX8_waveFrom_25 ?_
      refine r_iconst hX (nI 1) dX8_waveFrom_26 rfl ?_
      refine r_iadd hX dX8_waveFrom_27 ?_
      refine r_max hX dX8_waveFrom_28 cb_X8_63 ⟨Nat.le_of_ble_eq_true rfl, Nat.le_of_ble_eq_true rfl⟩ ⟨Nat.le_of_ble_eq_true rfl, Nat.le_of_ble_eq_true rfl⟩ (Nat.le_of_ble_eq_true rfl) (nI (aF A i 3 + 1 - w)) (wv_mx (by omega) (by omega)) ?_
      refine r_istore hX [(0, .ref (L.1 (b + 4))), (1, .int (nI w)), (2, .int (nI ((wfK A w i).1))), (3, .int (nI ((wfK A w i).2))), (4, .int (nI i)), (5, .int (nI (aF A i 3 + 1 - w)))] dX8_waveFrom_31 hN5 rfl ?_
      refine r_aload_n hX dX8_waveFrom_33 rfl ?_
      refine r_iload hX dX8_waveFrom_34 rfl ?_
      refine r_iload_n hX dX8_waveFrom_36 rfl ?_
      refine r_callVF (As := [.int (nI (aF A i 3 + 1 - w)), .int (nI w)]) (rest := []) hX (c_X8_countWithin b hC σ A hW hV (aF A i 3 + 1 - w) w (by omega) (by omega)) dX8_waveFrom_37 cb_X8_83 (hC.1 4 (7, 0) rfl) rfl rfl ⟨Nat.le_of_ble_eq_true rfl, Nat.le_of_ble_eq_true rfl⟩ ⟨Nat.le_of_ble_eq_true rfl, Nat.le_of_ble_eq_true rfl⟩ (Nat.le_of_ble_eq_true rfl) ?_
      refine r_istore hX [(0, .ref (L.1 (b + 4))), (1, .int (nI w)), (2, .int (nI ((wfK A w i).1))), (3, .int (nI ((wfK A w i).2))), (4, .int (nI i)), (5, .int (nI (aF A i 3 + 1 - w))), (6, .int (nI (wiN A (aF A i 3 + 1 - w) w (aW A))))] dX8_waveFrom_40 hN6 rfl ?_
      refine r_iload hX dX8_waveFrom_42 rfl ?_
      refine r_iload_n hX dX8_waveFrom_44 rfl ?_
      refine r_icmpN_gt hX dX8_waveFrom_45 (by omega) (by omega) (fun c5 => ?_) (fun c5 => ?_)
      · skip
        refine r_iload hX dX8_waveFrom_60 rfl ?_
        refine r_istore_n hX [(0, .ref (L.1 (b + 4))), (1, .int (nI w)), (2, .int (nI (aF A i 3 + 1 - w))), (3, .int (nI ((wfK A w i).2))), (4, .int (nI i)), (5, .int (nI (aF A i 3 + 1 - w))), (6, .int (nI (wiN A (aF A i 3 + 1 - w) w (aW A))))] dX8_waveFrom_62 hN2 rfl ?_
        refine r_iload hX dX8_waveFrom_63 rfl ?_
        refine r_istore_n hX [(0, .ref (L.1 (b + 4))), (1, .int (nI w)), (2, .int (nI (aF A i 3 + 1 - w))), (3, .int (nI (wiN A (aF A i 3 + 1 - w) w (aW A)))), (4, .int (nI i)), (5, .int (nI (aF A i 3 + 1 - w))), (6, .int (nI (wiN A (aF A i 3 + 1 - w) w (aW A))))] dX8_waveFrom_65 hN3 rfl ?_
        refine r_iincN (n := 1) hX [(0, .ref (L.1 (b + 4))), (1, .int (nI w)), (2, .int (nI (aF A i 3 + 1 - w))), (3, .int (nI (wiN A (aF A i 3 + 1 - w) w (aW A)))), (4, .int (nI (i + 1))), (5, .int (nI (aF A i 3 + 1 - w))), (6, .int (nI (wiN A (aF A i 3 + 1 - w) w (aW A))))] dX8_waveFrom_66 rfl hN4 rfl ?_
        refine r_goto hX dX8_waveFrom_69 ?_
        have q6 : (wfK A w (i + 1)).1 = aF A i 3 + 1 - w := (by rw [wfK_s1 (Or.inl c5)])
        have q7 : (wfK A w (i + 1)).2 = wiN A (aF A i 3 + 1 - w) w (aW A) := (by rw [wfK_s1 (Or.inl c5)])
        exact At.less (At.to (ls := [(0, .ref (L.1 (b + 4))), (1, .int (nI w)), (2, .int (nI (aF A i 3 + 1 - w))), (3, .int (nI (wiN A (aF A i 3 + 1 - w) w (aW A)))), (4, .int (nI (i + 1)))]) ih3 (by rw [q6, q7]) rfl rfl) (by simp)
      · skip
        refine r_iload hX dX8_waveFrom_48 rfl ?_
        refine r_iload_n hX dX8_waveFrom_50 rfl ?_
        refine r_icmpN_ne hX dX8_waveFrom_51 (by omega) (by omega) (fun c8 => ?_) (fun c8 => ?_)
        · skip
          refine r_iincN (n := 1) hX [(0, .ref (L.1 (b + 4))), (1, .int (nI w)), (2, .int (nI ((wfK A w i).1))), (3, .int (nI ((wfK A w i).2))), (4, .int (nI (i + 1))), (5, .int (nI (aF A i 3 + 1 - w))), (6, .int (nI (wiN A (aF A i 3 + 1 - w) w (aW A))))] dX8_waveFrom_66 rfl hN4 rfl ?_
          refine r_goto hX dX8_waveFrom_69 ?_
          have q9 : (wfK A w (i + 1)).1 = (wfK A w i).1 := (by rw [wfK_s0 (fun q => q.elim (fun q => absurd q (by omega)) (fun q => c8 q.1))])
          have q10 : (wfK A w (i + 1)).2 = (wfK A w i).2 := (by rw [wfK_s0 (fun q => q.elim (fun q => absurd q (by omega)) (fun q => c8 q.1))])
          exact At.less (At.to (ls := [(0, .ref (L.1 (b + 4))), (1, .int (nI w)), (2, .int (nI ((wfK A w i).1))), (3, .int (nI ((wfK A w i).2))), (4, .int (nI (i + 1)))]) ih3 (by rw [q9, q10]) rfl rfl) (by simp)
        · skip
          refine r_iload hX dX8_waveFrom_54 rfl ?_
          refine r_iload_n hX dX8_waveFrom_56 rfl ?_
          refine r_icmpN_ge hX dX8_waveFrom_57 (by omega) (by omega) (fun c11 => ?_) (fun c11 => ?_)
          · skip
            refine r_iincN (n := 1) hX [(0, .ref (L.1 (b + 4))), (1, .int (nI w)), (2, .int (nI ((wfK A w i).1))), (3, .int (nI ((wfK A w i).2))), (4, .int (nI (i + 1))), (5, .int (nI (aF A i 3 + 1 - w))), (6, .int (nI (wiN A (aF A i 3 + 1 - w) w (aW A))))] dX8_waveFrom_66 rfl hN4 rfl ?_
            refine r_goto hX dX8_waveFrom_69 ?_
            have q12 : (wfK A w (i + 1)).1 = (wfK A w i).1 := (by rw [wfK_s0 (fun q => q.elim (fun q => absurd q (by omega)) (fun q => absurd q.2 (by omega)))])
            have q13 : (wfK A w (i + 1)).2 = (wfK A w i).2 := (by rw [wfK_s0 (fun q => q.elim (fun q => absurd q (by omega)) (fun q => absurd q.2 (by omega)))])
            exact At.less (At.to (ls := [(0, .ref (L.1 (b + 4))), (1, .int (nI w)), (2, .int (nI ((wfK A w i).1))), (3, .int (nI ((wfK A w i).2))), (4, .int (nI (i + 1)))]) ih3 (by rw [q12, q13]) rfl rfl) (by simp)
          · skip
            refine r_iload hX dX8_waveFrom_60 rfl ?_
            refine r_istore_n hX [(0, .ref (L.1 (b + 4))), (1, .int (nI w)), (2, .int (nI (aF A i 3 + 1 - w))), (3, .int (nI ((wfK A w i).2))), (4, .int (nI i)), (5, .int (nI (aF A i 3 + 1 - w))), (6, .int (nI (wiN A (aF A i 3 + 1 - w) w (aW A))))] dX8_waveFrom_62 hN2 rfl ?_
            refine r_iload hX dX8_waveFrom_63 rfl ?_
            refine r_istore_n hX [(0, .ref (L.1 (b + 4))), (1, .int (nI w)), (2, .int (nI (aF A i 3 + 1 - w))), (3, .int (nI (wiN A (aF A i 3 + 1 - w) w (aW A)))), (4, .int (nI i)), (5, .int (nI (aF A i 3 + 1 - w))), (6, .int (nI (wiN A (aF A i 3 + 1 - w) w (aW A))))] dX8_waveFrom_65 hN3 rfl ?_
            refine r_iincN (n := 1) hX [(0, .ref (L.1 (b + 4))), (1, .int (nI w)), (2, .int (nI (aF A i 3 + 1 - w))), (3, .int (nI (wiN A (aF A i 3 + 1 - w) w (aW A)))), (4, .int (nI (i + 1))), (5, .int (nI (aF A i 3 + 1 - w))), (6, .int (nI (wiN A (aF A i 3 + 1 - w) w (aW A))))] dX8_waveFrom_66 rfl hN4 rfl ?_
            refine r_goto hX dX8_waveFrom_69 ?_
            have q14 : (wfK A w (i + 1)).1 = aF A i 3 + 1 - w := (by rw [wfK_s1 (Or.inr ⟨c8, c11⟩)])
            have q15 : (wfK A w (i + 1)).2 = wiN A (aF A i 3 + 1 - w) w (aW A) := (by rw [wfK_s1 (Or.inr ⟨c8, c11⟩)])
            exact At.less (At.to (ls := [(0, .ref (L.1 (b + 4))), (1, .int (nI w)), (2, .int (nI (aF A i 3 + 1 - w))), (3, .int (nI (wiN A (aF A i 3 + 1 - w) w (aW A)))), (4, .int (nI (i + 1)))]) ih3 (by rw [q14, q15]) rfl rfl) (by simp)
  exact At.to (P1 0 (Nat.zero_le _)) rfl rfl rfl

set_option maxHeartbeats 4000000 in
set_option maxRecDepth 100000 in
theorem c_X8_changeBy {l : Launch} {D : Ds} {L : La}  (b : Nat) (hC : RAt L b) (σ : Me) (A : Al) (hW : RW σ b A) (hV : Va A) (t h v : Nat) (ht : t < 2 ^ 31) (hh : h < 2 ^ 31) (hv : v < aW A) (hv1 : aF A v 1 = t) (hv3 : aF A v 3 = h) : Ct l yX8_changeBy cX8_changeBy 8 (some .int) { frames := 1, cells := 0, slots := 0, locals := 21 } D L σ [.ref (L.1 (b + 4)), .int (nI t), .int (nI h)] (PF L σ (nI? (dfO A t h))) := by
  refine Ct.of (by decide) (Nat.le_of_ble_eq_true rfl) ?_
  intro X hl hD hnl hX0 hQ
  have hX : Ok X cX8_changeBy RX8 "changeBy" { frames := 1, cells := 0, slots := 0, locals := 21 } (some .int) := hX0
  have hN3 : 3 < xn X := by rw [hnl]; decide
  have hN4 : 4 < xn X := by rw [hnl]; decide
  have hN5 : 5 < xn X := by rw [hnl]; decide
  have hN6 : 6 < xn X := by rw [hnl]; decide
  have hN7 : 7 < xn X := by rw [hnl]; decide
  have hW24 := hV.2.2.1
  have hss := ss_le hV t
  have hcl := cw_le A 1 t (aW A)
  have hlt := dc_lt hv1 hv3 (aW A) hv
  have hdl := ds_le (A := A) t h (aW A)
  show At X L σ 0 0 [(0, .ref (L.1 (b + 4))), (1, .int (nI t)), (2, .int (nI h))] 0 []
  refine r_iconst hX (nI 0) dX8_changeBy_0 rfl ?_
  refine r_istore_n hX [(0, .ref (L.1 (b + 4))), (1, .int (nI t)), (2, .int (nI h)), (3, .int (nI 0))] dX8_changeBy_1 hN3 rfl ?_
  refine r_iconst hX (nI 0) dX8_changeBy_2 rfl ?_
  refine r_istore hX [(0, .ref (L.1 (b + 4))), (1, .int (nI t)), (2, .int (nI h)), (3, .int (nI 0)), (4, .int (nI 0))] dX8_changeBy_3 hN4 rfl ?_
  refine r_iconst hX (nI 0) dX8_changeBy_5 rfl ?_
  refine r_istore hX [(0, .ref (L.1 (b + 4))), (1, .int (nI t)), (2, .int (nI h)), (3, .int (nI 0)), (4, .int (nI 0)), (5, .int (nI 0))] dX8_changeBy_6 hN5 rfl ?_
  refine r_iconst hX (nI 0) dX8_changeBy_8 rfl ?_
  refine r_istore hX [(0, .ref (L.1 (b + 4))), (1, .int (nI t)), (2, .int (nI h)), (3, .int (nI 0)), (4, .int (nI 0)), (5, .int (nI 0)), (6, .int (nI 0))] dX8_changeBy_9 hN6 rfl ?_
  refine r_iconst hX (nI 0) dX8_changeBy_11 rfl ?_
  refine r_istore hX [(0, .ref (L.1 (b + 4))), (1, .int (nI t)), (2, .int (nI h)), (3, .int (nI 0)), (4, .int (nI 0)), (5, .int (nI 0)), (6, .int (nI 0)), (7, .int (nI 0))] dX8_changeBy_12 hN7 rfl ?_
  have P1 : ∀ k, k ≤ aW A → At X L σ 0 0 [(0, .ref (L.1 (b + 4))), (1, .int (nI t)), (2, .int (nI h)), (3, .int (nI (dcN A t h k))), (4, .int (nI (dsN A t h k))), (5, .int (nI (cw A 1 t k - dcN A t h k))), (6, .int (nI (ss A 1 t k - dsN A t h k))), (7, .int (nI k))] 14 [] := by
    refine loopUp (aW A) ?_ ?_
    · skip
      refine r_iload hX dX8_changeBy_14 rfl ?_
      refine r_aload_n hX dX8_changeBy_16 rfl ?_
      refine r_getIV hX dX8_changeBy_17 fl_X8_9 (hC.1 4 (7, 0) rfl) rfl (nI (aW A)) hW.1 ?_
      refine r_icmpN_ge hX dX8_changeBy_20 (by omega) (by omega) (fun c2 => ?_) (fun c2 => absurd c2 (by omega))
      refine r_iload_n hX dX8_changeBy_95 rfl ?_
      refine r_ifN_eq hX dX8_changeBy_96 (by omega) (fun c3 => ?_) (fun c3 => ?_)
      · skip
        refine r_ldc hX dX8_changeBy_104 ko_X8_52 ?_
        exact r_ireturn hX hQ dX8_changeBy_106 ⟨Nat.le_of_ble_eq_true rfl, Nat.le_of_ble_eq_true rfl⟩ (PF.mk (by rw [dfO, if_pos c3]; rfl))
      · skip
        refine r_iload hX dX8_changeBy_99 rfl ?_
        refine r_ifN_ne hX dX8_changeBy_101 (by omega) (fun c4 => ?_) (fun c4 => absurd c4 (by omega))
        refine r_bipush hX (nI 100) dX8_changeBy_107 rfl ?_
        refine r_iload hX dX8_changeBy_109 rfl ?_
        refine r_imulN hX dX8_changeBy_111 ?_
        refine r_iload_n hX dX8_changeBy_112 rfl ?_
        refine r_idivN hX dX8_changeBy_113 (by omega) (by omega) (by omega) ?_
        refine r_bipush hX (nI 100) dX8_changeBy_114 rfl ?_
        refine r_iload hX dX8_changeBy_116 rfl ?_
        refine r_imulN hX dX8_changeBy_118 ?_
        refine r_iload hX dX8_changeBy_119 rfl ?_
        refine r_idivN hX dX8_changeBy_121 (by omega) (by omega) (by omega) ?_
        refine r_isub hX dX8_changeBy_122 ?_
        refine r_abs hX dX8_changeBy_123 cb_X8_80 ⟨Nat.le_of_ble_eq_true rfl, Nat.le_of_ble_eq_true rfl⟩ ⟨Nat.le_of_ble_eq_true rfl, Nat.le_of_ble_eq_true rfl⟩ (Nat.le_of_ble_eq_true rfl) (nI (apN (100 * dsN A t h (aW A) / dcN A t h (aW A)) (100 * (ss A 1 t (aW A) - dsN A t h (aW A)) / (cw A 1 t (aW A) - dcN A t h (aW A))))) (abs_sub (by have := Nat.div_le_self (100 * dsN A t h (aW A)) (dcN A t h (aW A)); omega) (by have := Nat.div_le_self (100 * (ss A 1 t (aW A) - dsN A t h (aW A))) (cw A 1 t (aW A) - dcN A t h (aW A)); omega)) ?_
        exact r_ireturn hX hQ dX8_changeBy_126 ⟨Nat.le_of_ble_eq_true rfl, Nat.le_of_ble_eq_true rfl⟩ (PF.mk (by rw [dfO, if_neg c3]; rfl))
    · skip
      intro k hk ih5
      have hb1 := va_sm hV hk (f := 1) (by decide)
      have hb3 := va_sm hV hk (f := 3) (by decide)
      have hb4 := va_sm hV hk (f := 4) (by decide)
      have hdk := ds_le (A := A) t h k
      refine r_iload hX dX8_changeBy_14 rfl ?_
      refine r_aload_n hX dX8_changeBy_16 rfl ?_
      refine r_getIV hX dX8_changeBy_17 fl_X8_9 (hC.1 4 (7, 0) rfl) rfl (nI (aW A)) hW.1 ?_
      refine r_icmpN_ge hX dX8_changeBy_20 (by omega) (by omega) (fun c6 => absurd c6 (by omega)) (fun c6 => ?_)
      refine r_aload_n hX dX8_changeBy_23 rfl ?_
      refine r_getR hX dX8_changeBy_24 fl_X8_19 (hC.1 4 (7, 0) rfl) rfl (hC.2.1 4 2 10 rfl) ?_
      refine r_iload hX dX8_changeBy_27 rfl ?_
      refine r_aldN hX dX8_changeBy_29 (hC.1 10 (10, 24) rfl) (by decide) (by omega) (nI (aF A k 1)) (hW.2.2.1 k (by omega)) ?_
      refine r_iload_n hX dX8_changeBy_30 rfl ?_
      refine r_icmpN_ne hX dX8_changeBy_31 (by omega) (by omega) (fun c7 => ?_) (fun c7 => ?_)
      · skip
        refine r_aload_n hX dX8_changeBy_63 rfl ?_
        refine r_getR hX dX8_changeBy_64 fl_X8_19 (hC.1 4 (7, 0) rfl) rfl (hC.2.1 4 2 10 rfl) ?_
        refine r_iload hX dX8_changeBy_67 rfl ?_
        refine r_aldN hX dX8_changeBy_69 (hC.1 10 (10, 24) rfl) (by decide) (by omega) (nI (aF A k 1)) (hW.2.2.1 k (by omega)) ?_
        refine r_iload_n hX dX8_changeBy_70 rfl ?_
        refine r_icmpN_ne hX dX8_changeBy_71 (by omega) (by omega) (fun c8 => ?_) (fun c8 => absurd c8 c7)
        refine r_iincN (n := 1) hX [(0, .ref (L.1 (b + 4))), (1, .int (nI t)), (2, .int (nI h)), (3, .int (nI (dcN A t h k))), (4, .int (nI (dsN A t h k))), (5, .int (nI (cw A 1 t k - dcN A t h k))), (6, .int (nI (ss A 1 t k - dsN A t h k))), (7, .int (nI (k + 1)))] dX8_changeBy_89 rfl hN7 rfl ?_
        refine r_goto hX dX8_changeBy_92 ?_
        have q9 : dcN A t h (k + 1) = dcN A t h k := (by rw [dcN, if_neg (fun e => c7 e.1)]; try rfl)
        have q10 : dsN A t h (k + 1) = dsN A t h k := (by rw [dsN, if_neg (fun e => c7 e.1)]; try rfl)
        have q11 : cw A 1 t (k + 1) - dcN A t h (k + 1) = cw A 1 t k - dcN A t h k := (by rw [cw, dcN, if_neg c7, if_neg (fun e => c7 e.1)]; omega)
        have q12 : ss A 1 t (k + 1) - dsN A t h (k + 1) = ss A 1 t k - dsN A t h k := (by rw [ss, dsN, if_neg c7, if_neg (fun e => c7 e.1)]; omega)
        exact At.to ih5 (by rw [q12, q11, q10, q9]) rfl rfl
      · skip
        refine r_aload_n hX dX8_changeBy_34 rfl ?_
        refine r_getR hX dX8_changeBy_35 fl_X8_25 (hC.1 4 (7, 0) rfl) rfl (hC.2.1 4 4 12 rfl) ?_
        refine r_iload hX dX8_changeBy_38 rfl ?_
        refine r_aldN hX dX8_changeBy_40 (hC.1 12 (10, 24) rfl) (by decide) (by omega) (nI (aF A k 3)) (hW.2.2.2.2.1 k (by omega)) ?_
        refine r_iload_n hX dX8_changeBy_41 rfl ?_
        refine r_icmpN_ge hX dX8_changeBy_42 (by omega) (by omega) (fun c13 => ?_) (fun c13 => ?_)
        · skip
          refine r_aload_n hX dX8_changeBy_63 rfl ?_
          refine r_getR hX dX8_changeBy_64 fl_X8_19 (hC.1 4 (7, 0) rfl) rfl (hC.2.1 4 2 10 rfl) ?_
          refine r_iload hX dX8_changeBy_67 rfl ?_
          refine r_aldN hX dX8_changeBy_69 (hC.1 10 (10, 24) rfl) (by decide) (by omega) (nI (aF A k 1)) (hW.2.2.1 k (by omega)) ?_
          refine r_iload_n hX dX8_changeBy_70 rfl ?_
          refine r_icmpN_ne hX dX8_changeBy_71 (by omega) (by omega) (fun c14 => absurd c7 c14) (fun c14 => ?_)
          refine r_iincN (n := 1) hX [(0, .ref (L.1 (b + 4))), (1, .int (nI t)), (2, .int (nI h)), (3, .int (nI (dcN A t h k))), (4, .int (nI (dsN A t h k))), (5, .int (nI ((cw A 1 t k - dcN A t h k) + 1))), (6, .int (nI (ss A 1 t k - dsN A t h k))), (7, .int (nI k))] dX8_changeBy_74 rfl hN5 rfl ?_
          refine r_iload hX dX8_changeBy_77 rfl ?_
          refine r_aload_n hX dX8_changeBy_79 rfl ?_
          refine r_getR hX dX8_changeBy_80 fl_X8_28 (hC.1 4 (7, 0) rfl) rfl (hC.2.1 4 5 13 rfl) ?_
          refine r_iload hX dX8_changeBy_83 rfl ?_
          refine r_aldN hX dX8_changeBy_85 (hC.1 13 (10, 24) rfl) (by decide) (by omega) (nI (aF A k 4)) (hW.2.2.2.2.2 k (by omega)) ?_
          refine r_iaddN hX dX8_changeBy_86 ?_
          refine r_istore hX [(0, .ref (L.1 (b + 4))), (1, .int (nI t)), (2, .int (nI h)), (3, .int (nI (dcN A t h k))), (4, .int (nI (dsN A t h k))), (5, .int (nI ((cw A 1 t k - dcN A t h k) + 1))), (6, .int (nI ((ss A 1 t k - dsN A t h k) + (aF A k 4)))), (7, .int (nI k))] dX8_changeBy_87 hN6 rfl ?_
          refine r_iincN (n := 1) hX [(0, .ref (L.1 (b + 4))), (1, .int (nI t)), (2, .int (nI h)), (3, .int (nI (dcN A t h k))), (4, .int (nI (dsN A t h k))), (5, .int (nI ((cw A 1 t k - dcN A t h k) + 1))), (6, .int (nI ((ss A 1 t k - dsN A t h k) + (aF A k 4)))), (7, .int (nI (k + 1)))] dX8_changeBy_89 rfl hN7 rfl ?_
          refine r_goto hX dX8_changeBy_92 ?_
          have q15 : dcN A t h (k + 1) = dcN A t h k := (by rw [dcN, if_neg (by omega)]; try rfl)
          have q16 : dsN A t h (k + 1) = dsN A t h k := (by rw [dsN, if_neg (by omega)]; try rfl)
          have q17 : cw A 1 t (k + 1) - dcN A t h (k + 1) = (cw A 1 t k - dcN A t h k) + 1 := (by rw [cw, dcN, if_pos c7, if_neg (by omega)]; omega)
          have q18 : ss A 1 t (k + 1) - dsN A t h (k + 1) = (ss A 1 t k - dsN A t h k) + (aF A k 4) := (by rw [ss, dsN, if_pos c7, if_neg (by omega)]; omega)
          exact At.to ih5 (by rw [q18, q17, q16, q15]) rfl rfl
        · skip
          refine r_iincN (n := 1) hX [(0, .ref (L.1 (b + 4))), (1, .int (nI t)), (2, .int (nI h)), (3, .int (nI (dcN A t h k + 1))), (4, .int (nI (dsN A t h k))), (5, .int (nI (cw A 1 t k - dcN A t h k))), (6, .int (nI (ss A 1 t k - dsN A t h k))), (7, .int (nI k))] dX8_changeBy_45 rfl hN3 rfl ?_
          refine r_iload hX dX8_changeBy_48 rfl ?_
          refine r_aload_n hX dX8_changeBy_50 rfl ?_
          refine r_getR hX dX8_changeBy_51 fl_X8_28 (hC.1 4 (7, 0) rfl) rfl (hC.2.1 4 5 13 rfl) ?_
          refine r_iload hX dX8_changeBy_54 rfl ?_
          refine r_aldN hX dX8_changeBy_56 (hC.1 13 (10, 24) rfl) (by decide) (by omega) (nI (aF A k 4)) (hW.2.2.2.2.2 k (by omega)) ?_
          refine r_iaddN hX dX8_changeBy_57 ?_
          refine r_istore hX [(0, .ref (L.1 (b + 4))), (1, .int (nI t)), (2, .int (nI h)), (3, .int (nI (dcN A t h k + 1))), (4, .int (nI (dsN A t h k + (aF A k 4)))), (5, .int (nI (cw A 1 t k - dcN A t h k))), (6, .int (nI (ss A 1 t k - dsN A t h k))), (7, .int (nI k))] dX8_changeBy_58 hN4 rfl ?_
          refine r_goto hX dX8_changeBy_60 ?_
          refine r_iincN (n := 1) hX [(0, .ref (L.1 (b + 4))), (1, .int (nI t)), (2, .int (nI h)), (3, .int (nI (dcN A t h k + 1))), (4, .int (nI (dsN A t h k + (aF A k 4)))), (5, .int (nI (cw A 1 t k - dcN A t h k))), (6, .int (nI (ss A 1 t k - dsN A t h k))), (7, .int (nI (k + 1)))] dX8_changeBy_89 rfl hN7 rfl ?_
          refine r_goto hX dX8_changeBy_92 ?_
          have q19 : dcN A t h (k + 1) = dcN A t h k + 1 := (by rw [dcN, if_pos ⟨c7, c13⟩]; try rfl)
          have q20 : dsN A t h (k + 1) = dsN A t h k + (aF A k 4) := (by rw [dsN, if_pos ⟨c7, c13⟩]; try rfl)
          have q21 : cw A 1 t (k + 1) - dcN A t h (k + 1) = cw A 1 t k - dcN A t h k := (by rw [cw, dcN, if_pos c7, if_pos ⟨c7, c13⟩]; omega)
          have q22 : ss A 1 t (k + 1) - dsN A t h (k + 1) = ss A 1 t k - dsN A t h k := (by rw [ss, dsN, if_pos c7, if_pos ⟨c7, c13⟩]; omega)
          exact At.to ih5 (by rw [q22, q21, q20, q19]) rfl rfl
  exact At.to (P1 0 (Nat.zero_le _)) rfl rfl rfl

set_option maxHeartbeats 4000000 in
set_option maxRecDepth 100000 in
theorem c_X8_changeOf {l : Launch} {D : Ds} {L : La}  (b : Nat) (hC : RAt L b) (σ : Me) (A : Al) (hW : RW σ b A) (hV : Va A) (t : Nat) (ht : t < 2 ^ 31) : Ct l yX8_changeOf cX8_changeOf 6 (some .int) { frames := 2, cells := 0, slots := 0, locals := 48 } D L σ [.ref (L.1 (b + 4)), .int (nI t)] (PF L σ (chH (chK A t (aW A)))) := by
  refine Ct.of (by decide) (Nat.le_of_ble_eq_true rfl) ?_
  intro X hl hD hnl hX0 hQ
  have hX : Ok X cX8_changeOf RX8 "changeOf" { frames := 2, cells := 0, slots := 0, locals := 48 } (some .int) := hX0
  have hN2 : 2 < xn X := by rw [hnl]; decide
  have hN3 : 3 < xn X := by rw [hnl]; decide
  have hN4 : 4 < xn X := by rw [hnl]; decide
  have hN5 : 5 < xn X := by rw [hnl]; decide
  have hW24 := hV.2.2.1
  show At X L σ 0 0 [(0, .ref (L.1 (b + 4))), (1, .int (nI t))] 0 []
  refine r_ldc hX dX8_changeOf_0 ko_X8_52 ?_
  refine r_istore_n hX [(0, .ref (L.1 (b + 4))), (1, .int (nI t)), (2, .int (-1000000005))] dX8_changeOf_2 hN2 rfl ?_
  refine r_ldc hX dX8_changeOf_3 ko_X8_52 ?_
  refine r_istore_n hX [(0, .ref (L.1 (b + 4))), (1, .int (nI t)), (2, .int (-1000000005)), (3, .int (-1000000005))] dX8_changeOf_5 hN3 rfl ?_
  refine r_iconst hX (nI 0) dX8_changeOf_6 rfl ?_
  refine r_istore hX [(0, .ref (L.1 (b + 4))), (1, .int (nI t)), (2, .int (-1000000005)), (3, .int (-1000000005)), (4, .int (nI 0))] dX8_changeOf_7 hN4 rfl ?_
  have P1 : ∀ k, k ≤ aW A → At X L σ 0 0 [(0, .ref (L.1 (b + 4))), (1, .int (nI t)), (2, .int (chH (chK A t k))), (3, .int (chN (chK A t k))), (4, .int (nI k))] 9 [] := by
    refine loopUp (aW A) ?_ ?_
    · skip
      refine r_iload hX dX8_changeOf_9 rfl ?_
      refine r_aload_n hX dX8_changeOf_11 rfl ?_
      refine r_getIV hX dX8_changeOf_12 fl_X8_9 (hC.1 4 (7, 0) rfl) rfl (nI (aW A)) hW.1 ?_
      refine r_icmpN_ge hX dX8_changeOf_15 (by omega) (by omega) (fun c2 => ?_) (fun c2 => absurd c2 (by omega))
      refine r_iload_n hX dX8_changeOf_95 rfl ?_
      exact r_ireturn hX hQ dX8_changeOf_96 ⟨Nat.le_of_ble_eq_true rfl, Nat.le_of_ble_eq_true rfl⟩ (PF.mk rfl)
    · skip
      intro k hk ih3
      have hb1 := va_sm hV hk (f := 1) (by decide)
      have hb3 := va_sm hV hk (f := 3) (by decide)
      refine r_iload hX dX8_changeOf_9 rfl ?_
      refine r_aload_n hX dX8_changeOf_11 rfl ?_
      refine r_getIV hX dX8_changeOf_12 fl_X8_9 (hC.1 4 (7, 0) rfl) rfl (nI (aW A)) hW.1 ?_
      refine r_icmpN_ge hX dX8_changeOf_15 (by omega) (by omega) (fun c4 => absurd c4 (by omega)) (fun c4 => ?_)
      rcases hch : chK A t k with _ | p
      · skip
        show At X L σ 0 0 [(0, .ref (L.1 (b + 4))), (1, .int (nI t)), (2, .int (-1000000005)), (3, .int (-1000000005)), (4, .int (nI k))] 18 []
        refine r_aload_n hX dX8_changeOf_18 rfl ?_
        refine r_getR hX dX8_changeOf_19 fl_X8_19 (hC.1 4 (7, 0) rfl) rfl (hC.2.1 4 2 10 rfl) ?_
        refine r_iload hX dX8_changeOf_22 rfl ?_
        refine r_aldN hX dX8_changeOf_24 (hC.1 10 (10, 24) rfl) (by decide) (by omega) (nI (aF A k 1)) (hW.2.2.1 k (by omega)) ?_
        refine r_iload_n hX dX8_changeOf_25 rfl ?_
        refine r_icmpN_ne hX dX8_changeOf_26 (by omega) (by omega) (fun c5 => ?_) (fun c5 => ?_)
        · skip
          refine r_ldc hX dX8_changeOf_44 ko_X8_52 ?_
          refine r_istore hX [(0, .ref (L.1 (b + 4))), (1, .int (nI t)), (2, .int (-1000000005)), (3, .int (-1000000005)), (4, .int (nI k)), (5, .int (-1000000005))] dX8_changeOf_46 hN5 rfl ?_
          refine r_iload hX dX8_changeOf_48 rfl ?_
          refine r_iload_n hX dX8_changeOf_50 rfl ?_
          refine r_icmp_gt hX dX8_changeOf_51 (fun c6 => absurd c6 (by decide)) (fun c6 => ?_)
          refine r_iload hX dX8_changeOf_54 rfl ?_
          refine r_ldc hX dX8_changeOf_56 ko_X8_52 ?_
          refine r_icmp_eq hX dX8_changeOf_58 (fun c7 => ?_) (fun c7 => absurd rfl c7)
          refine r_iincN (n := 1) hX [(0, .ref (L.1 (b + 4))), (1, .int (nI t)), (2, .int (-1000000005)), (3, .int (-1000000005)), (4, .int (nI (k + 1))), (5, .int (-1000000005))] dX8_changeOf_89 rfl hN4 rfl ?_
          refine r_goto hX dX8_changeOf_92 ?_
          have q8 : (chH (chK A t (k + 1))) = (-1000000005) := (by rw [chK_no c5, hch]; rfl)
          have q9 : (chN (chK A t (k + 1))) = (-1000000005) := (by rw [chK_no c5, hch]; rfl)
          exact At.less (At.to (ls := [(0, .ref (L.1 (b + 4))), (1, .int (nI t)), (2, .int (-1000000005)), (3, .int (-1000000005)), (4, .int (nI (k + 1)))]) ih3 (by rw [q8, q9]) rfl rfl) (by simp)
        · skip
          refine r_aload_n hX dX8_changeOf_29 rfl ?_
          refine r_iload_n hX dX8_changeOf_30 rfl ?_
          refine r_aload_n hX dX8_changeOf_31 rfl ?_
          refine r_getR hX dX8_changeOf_32 fl_X8_25 (hC.1 4 (7, 0) rfl) rfl (hC.2.1 4 4 12 rfl) ?_
          refine r_iload hX dX8_changeOf_35 rfl ?_
          refine r_aldN hX dX8_changeOf_37 (hC.1 12 (10, 24) rfl) (by decide) (by omega) (nI (aF A k 3)) (hW.2.2.2.2.1 k (by omega)) ?_
          refine r_callVF (As := [.int (nI t), .int (nI (aF A k 3))]) (rest := []) hX (c_X8_changeBy b hC σ A hW hV t (aF A k 3) k (by omega) (by omega) hk c5 rfl) dX8_changeOf_38 cb_X8_86 (hC.1 4 (7, 0) rfl) rfl rfl ⟨Nat.le_of_ble_eq_true rfl, Nat.le_of_ble_eq_true rfl⟩ ⟨Nat.le_of_ble_eq_true rfl, Nat.le_of_ble_eq_true rfl⟩ (Nat.le_of_ble_eq_true rfl) ?_
          rcases hdf : dfO A t (aF A k 3) with _ | b0
          · skip
            show At X L σ 0 0 [(0, .ref (L.1 (b + 4))), (1, .int (nI t)), (2, .int (-1000000005)), (3, .int (-1000000005)), (4, .int (nI k))] 41 [.int (-1000000005)]
            refine r_goto hX dX8_changeOf_41 ?_
            refine r_istore hX [(0, .ref (L.1 (b + 4))), (1, .int (nI t)), (2, .int (-1000000005)), (3, .int (-1000000005)), (4, .int (nI k)), (5, .int (-1000000005))] dX8_changeOf_46 hN5 rfl ?_
            refine r_iload hX dX8_changeOf_48 rfl ?_
            refine r_iload_n hX dX8_changeOf_50 rfl ?_
            refine r_icmp_gt hX dX8_changeOf_51 (fun c10 => absurd c10 (by decide)) (fun c10 => ?_)
            refine r_iload hX dX8_changeOf_54 rfl ?_
            refine r_ldc hX dX8_changeOf_56 ko_X8_52 ?_
            refine r_icmp_eq hX dX8_changeOf_58 (fun c11 => ?_) (fun c11 => absurd rfl c11)
            refine r_iincN (n := 1) hX [(0, .ref (L.1 (b + 4))), (1, .int (nI t)), (2, .int (-1000000005)), (3, .int (-1000000005)), (4, .int (nI (k + 1))), (5, .int (-1000000005))] dX8_changeOf_89 rfl hN4 rfl ?_
            refine r_goto hX dX8_changeOf_92 ?_
            have q12 : (chH (chK A t (k + 1))) = (-1000000005) := (by rw [chK_0 c5 hdf, hch]; rfl)
            have q13 : (chN (chK A t (k + 1))) = (-1000000005) := (by rw [chK_0 c5 hdf, hch]; rfl)
            exact At.less (At.to (ls := [(0, .ref (L.1 (b + 4))), (1, .int (nI t)), (2, .int (-1000000005)), (3, .int (-1000000005)), (4, .int (nI (k + 1)))]) ih3 (by rw [q12, q13]) rfl rfl) (by simp)
          · skip
            show At X L σ 0 0 [(0, .ref (L.1 (b + 4))), (1, .int (nI t)), (2, .int (-1000000005)), (3, .int (-1000000005)), (4, .int (nI k))] 41 [.int (nI b0)]
            have hbl := dfO_lt hV hdf
            refine r_goto hX dX8_changeOf_41 ?_
            refine r_istore hX [(0, .ref (L.1 (b + 4))), (1, .int (nI t)), (2, .int (-1000000005)), (3, .int (-1000000005)), (4, .int (nI k)), (5, .int (nI b0))] dX8_changeOf_46 hN5 rfl ?_
            refine r_iload hX dX8_changeOf_48 rfl ?_
            refine r_iload_n hX dX8_changeOf_50 rfl ?_
            refine r_icmp_gt hX dX8_changeOf_51 (fun c14 => ?_) (fun c14 => absurd (nlt1 (by omega) (by decide)) c14)
            refine r_aload_n hX dX8_changeOf_78 rfl ?_
            refine r_getR hX dX8_changeOf_79 fl_X8_25 (hC.1 4 (7, 0) rfl) rfl (hC.2.1 4 4 12 rfl) ?_
            refine r_iload hX dX8_changeOf_82 rfl ?_
            refine r_aldN hX dX8_changeOf_84 (hC.1 12 (10, 24) rfl) (by decide) (by omega) (nI (aF A k 3)) (hW.2.2.2.2.1 k (by omega)) ?_
            refine r_istore_n hX [(0, .ref (L.1 (b + 4))), (1, .int (nI t)), (2, .int (nI (aF A k 3))), (3, .int (-1000000005)), (4, .int (nI k)), (5, .int (nI b0))] dX8_changeOf_85 hN2 rfl ?_
            refine r_iload hX dX8_changeOf_86 rfl ?_
            refine r_istore_n hX [(0, .ref (L.1 (b + 4))), (1, .int (nI t)), (2, .int (nI (aF A k 3))), (3, .int (nI b0)), (4, .int (nI k)), (5, .int (nI b0))] dX8_changeOf_88 hN3 rfl ?_
            refine r_iincN (n := 1) hX [(0, .ref (L.1 (b + 4))), (1, .int (nI t)), (2, .int (nI (aF A k 3))), (3, .int (nI b0)), (4, .int (nI (k + 1))), (5, .int (nI b0))] dX8_changeOf_89 rfl hN4 rfl ?_
            refine r_goto hX dX8_changeOf_92 ?_
            have q15 : (chH (chK A t (k + 1))) = nI (aF A k 3) := (by rw [chK_1 c5 hdf hch]; rfl)
            have q16 : (chN (chK A t (k + 1))) = nI b0 := (by rw [chK_1 c5 hdf hch]; rfl)
            exact At.less (At.to (ls := [(0, .ref (L.1 (b + 4))), (1, .int (nI t)), (2, .int (nI (aF A k 3))), (3, .int (nI b0)), (4, .int (nI (k + 1)))]) ih3 (by rw [q15, q16]) rfl rfl) (by simp)
      · skip
        show At X L σ 0 0 [(0, .ref (L.1 (b + 4))), (1, .int (nI t)), (2, .int (nI p.1)), (3, .int (nI p.2)), (4, .int (nI k))] 18 []
        have hpl := chK_lt hV (by omega) hch
        refine r_aload_n hX dX8_changeOf_18 rfl ?_
        refine r_getR hX dX8_changeOf_19 fl_X8_19 (hC.1 4 (7, 0) rfl) rfl (hC.2.1 4 2 10 rfl) ?_
        refine r_iload hX dX8_changeOf_22 rfl ?_
        refine r_aldN hX dX8_changeOf_24 (hC.1 10 (10, 24) rfl) (by decide) (by omega) (nI (aF A k 1)) (hW.2.2.1 k (by omega)) ?_
        refine r_iload_n hX dX8_changeOf_25 rfl ?_
        refine r_icmpN_ne hX dX8_changeOf_26 (by omega) (by omega) (fun c17 => ?_) (fun c17 => ?_)
        · skip
          refine r_ldc hX dX8_changeOf_44 ko_X8_52 ?_
          refine r_istore hX [(0, .ref (L.1 (b + 4))), (1, .int (nI t)), (2, .int (nI p.1)), (3, .int (nI p.2)), (4, .int (nI k)), (5, .int (-1000000005))] dX8_changeOf_46 hN5 rfl ?_
          refine r_iload hX dX8_changeOf_48 rfl ?_
          refine r_iload_n hX dX8_changeOf_50 rfl ?_
          refine r_icmp_gt hX dX8_changeOf_51 (fun c18 => absurd c18 (nlt2 (by omega) (by decide))) (fun c18 => ?_)
          refine r_iload hX dX8_changeOf_54 rfl ?_
          refine r_ldc hX dX8_changeOf_56 ko_X8_52 ?_
          refine r_icmp_eq hX dX8_changeOf_58 (fun c19 => ?_) (fun c19 => absurd rfl c19)
          refine r_iincN (n := 1) hX [(0, .ref (L.1 (b + 4))), (1, .int (nI t)), (2, .int (nI p.1)), (3, .int (nI p.2)), (4, .int (nI (k + 1))), (5, .int (-1000000005))] dX8_changeOf_89 rfl hN4 rfl ?_
          refine r_goto hX dX8_changeOf_92 ?_
          have q20 : (chH (chK A t (k + 1))) = nI p.1 := (by rw [chK_no c17, hch]; rfl)
          have q21 : (chN (chK A t (k + 1))) = nI p.2 := (by rw [chK_no c17, hch]; rfl)
          exact At.less (At.to (ls := [(0, .ref (L.1 (b + 4))), (1, .int (nI t)), (2, .int (nI p.1)), (3, .int (nI p.2)), (4, .int (nI (k + 1)))]) ih3 (by rw [q20, q21]) rfl rfl) (by simp)
        · skip
          refine r_aload_n hX dX8_changeOf_29 rfl ?_
          refine r_iload_n hX dX8_changeOf_30 rfl ?_
          refine r_aload_n hX dX8_changeOf_31 rfl ?_
          refine r_getR hX dX8_changeOf_32 fl_X8_25 (hC.1 4 (7, 0) rfl) rfl (hC.2.1 4 4 12 rfl) ?_
          refine r_iload hX dX8_changeOf_35 rfl ?_
          refine r_aldN hX dX8_changeOf_37 (hC.1 12 (10, 24) rfl) (by decide) (by omega) (nI (aF A k 3)) (hW.2.2.2.2.1 k (by omega)) ?_
          refine r_callVF (As := [.int (nI t), .int (nI (aF A k 3))]) (rest := []) hX (c_X8_changeBy b hC σ A hW hV t (aF A k 3) k (by omega) (by omega) hk c17 rfl) dX8_changeOf_38 cb_X8_86 (hC.1 4 (7, 0) rfl) rfl rfl ⟨Nat.le_of_ble_eq_true rfl, Nat.le_of_ble_eq_true rfl⟩ ⟨Nat.le_of_ble_eq_true rfl, Nat.le_of_ble_eq_true rfl⟩ (Nat.le_of_ble_eq_true rfl) ?_
          rcases hdf : dfO A t (aF A k 3) with _ | b0
          · skip
            show At X L σ 0 0 [(0, .ref (L.1 (b + 4))), (1, .int (nI t)), (2, .int (nI p.1)), (3, .int (nI p.2)), (4, .int (nI k))] 41 [.int (-1000000005)]
            refine r_goto hX dX8_changeOf_41 ?_
            refine r_istore hX [(0, .ref (L.1 (b + 4))), (1, .int (nI t)), (2, .int (nI p.1)), (3, .int (nI p.2)), (4, .int (nI k)), (5, .int (-1000000005))] dX8_changeOf_46 hN5 rfl ?_
            refine r_iload hX dX8_changeOf_48 rfl ?_
            refine r_iload_n hX dX8_changeOf_50 rfl ?_
            refine r_icmp_gt hX dX8_changeOf_51 (fun c22 => absurd c22 (nlt2 (by omega) (by decide))) (fun c22 => ?_)
            refine r_iload hX dX8_changeOf_54 rfl ?_
            refine r_ldc hX dX8_changeOf_56 ko_X8_52 ?_
            refine r_icmp_eq hX dX8_changeOf_58 (fun c23 => ?_) (fun c23 => absurd rfl c23)
            refine r_iincN (n := 1) hX [(0, .ref (L.1 (b + 4))), (1, .int (nI t)), (2, .int (nI p.1)), (3, .int (nI p.2)), (4, .int (nI (k + 1))), (5, .int (-1000000005))] dX8_changeOf_89 rfl hN4 rfl ?_
            refine r_goto hX dX8_changeOf_92 ?_
            have q24 : (chH (chK A t (k + 1))) = nI p.1 := (by rw [chK_0 c17 hdf, hch]; rfl)
            have q25 : (chN (chK A t (k + 1))) = nI p.2 := (by rw [chK_0 c17 hdf, hch]; rfl)
            exact At.less (At.to (ls := [(0, .ref (L.1 (b + 4))), (1, .int (nI t)), (2, .int (nI p.1)), (3, .int (nI p.2)), (4, .int (nI (k + 1)))]) ih3 (by rw [q24, q25]) rfl rfl) (by simp)
          · skip
            show At X L σ 0 0 [(0, .ref (L.1 (b + 4))), (1, .int (nI t)), (2, .int (nI p.1)), (3, .int (nI p.2)), (4, .int (nI k))] 41 [.int (nI b0)]
            have hbl := dfO_lt hV hdf
            refine r_goto hX dX8_changeOf_41 ?_
            refine r_istore hX [(0, .ref (L.1 (b + 4))), (1, .int (nI t)), (2, .int (nI p.1)), (3, .int (nI p.2)), (4, .int (nI k)), (5, .int (nI b0))] dX8_changeOf_46 hN5 rfl ?_
            refine r_iload hX dX8_changeOf_48 rfl ?_
            refine r_iload_n hX dX8_changeOf_50 rfl ?_
            refine r_icmpN_gt hX dX8_changeOf_51 (by omega) (by omega) (fun c26 => ?_) (fun c26 => ?_)
            · skip
              refine r_aload_n hX dX8_changeOf_78 rfl ?_
              refine r_getR hX dX8_changeOf_79 fl_X8_25 (hC.1 4 (7, 0) rfl) rfl (hC.2.1 4 4 12 rfl) ?_
              refine r_iload hX dX8_changeOf_82 rfl ?_
              refine r_aldN hX dX8_changeOf_84 (hC.1 12 (10, 24) rfl) (by decide) (by omega) (nI (aF A k 3)) (hW.2.2.2.2.1 k (by omega)) ?_
              refine r_istore_n hX [(0, .ref (L.1 (b + 4))), (1, .int (nI t)), (2, .int (nI (aF A k 3))), (3, .int (nI p.2)), (4, .int (nI k)), (5, .int (nI b0))] dX8_changeOf_85 hN2 rfl ?_
              refine r_iload hX dX8_changeOf_86 rfl ?_
              refine r_istore_n hX [(0, .ref (L.1 (b + 4))), (1, .int (nI t)), (2, .int (nI (aF A k 3))), (3, .int (nI b0)), (4, .int (nI k)), (5, .int (nI b0))] dX8_changeOf_88 hN3 rfl ?_
              refine r_iincN (n := 1) hX [(0, .ref (L.1 (b + 4))), (1, .int (nI t)), (2, .int (nI (aF A k 3))), (3, .int (nI b0)), (4, .int (nI (k + 1))), (5, .int (nI b0))] dX8_changeOf_89 rfl hN4 rfl ?_
              refine r_goto hX dX8_changeOf_92 ?_
              have q27 : (chH (chK A t (k + 1))) = nI (aF A k 3) := (by rw [chK_y c17 hdf hch (Or.inl c26)]; rfl)
              have q28 : (chN (chK A t (k + 1))) = nI b0 := (by rw [chK_y c17 hdf hch (Or.inl c26)]; rfl)
              exact At.less (At.to (ls := [(0, .ref (L.1 (b + 4))), (1, .int (nI t)), (2, .int (nI (aF A k 3))), (3, .int (nI b0)), (4, .int (nI (k + 1)))]) ih3 (by rw [q27, q28]) rfl rfl) (by simp)
            · skip
              refine r_iload hX dX8_changeOf_54 rfl ?_
              refine r_ldc hX dX8_changeOf_56 ko_X8_52 ?_
              refine r_icmp_eq hX dX8_changeOf_58 (fun c29 => absurd c29 (nneg_ne (by omega) (by decide))) (fun c29 => ?_)
              refine r_iload hX dX8_changeOf_61 rfl ?_
              refine r_iload_n hX dX8_changeOf_63 rfl ?_
              refine r_icmpN_ne hX dX8_changeOf_64 (by omega) (by omega) (fun c30 => ?_) (fun c30 => ?_)
              · skip
                refine r_iincN (n := 1) hX [(0, .ref (L.1 (b + 4))), (1, .int (nI t)), (2, .int (nI p.1)), (3, .int (nI p.2)), (4, .int (nI (k + 1))), (5, .int (nI b0))] dX8_changeOf_89 rfl hN4 rfl ?_
                refine r_goto hX dX8_changeOf_92 ?_
                have q31 : (chH (chK A t (k + 1))) = nI p.1 := (by rw [chK_n c17 hdf hch (fun q => q.elim (fun q => absurd q (by omega)) (fun q => c30 q.1))]; rfl)
                have q32 : (chN (chK A t (k + 1))) = nI p.2 := (by rw [chK_n c17 hdf hch (fun q => q.elim (fun q => absurd q (by omega)) (fun q => c30 q.1))]; rfl)
                exact At.less (At.to (ls := [(0, .ref (L.1 (b + 4))), (1, .int (nI t)), (2, .int (nI p.1)), (3, .int (nI p.2)), (4, .int (nI (k + 1)))]) ih3 (by rw [q31, q32]) rfl rfl) (by simp)
              · skip
                refine r_aload_n hX dX8_changeOf_67 rfl ?_
                refine r_getR hX dX8_changeOf_68 fl_X8_25 (hC.1 4 (7, 0) rfl) rfl (hC.2.1 4 4 12 rfl) ?_
                refine r_iload hX dX8_changeOf_71 rfl ?_
                refine r_aldN hX dX8_changeOf_73 (hC.1 12 (10, 24) rfl) (by decide) (by omega) (nI (aF A k 3)) (hW.2.2.2.2.1 k (by omega)) ?_
                refine r_iload_n hX dX8_changeOf_74 rfl ?_
                refine r_icmpN_ge hX dX8_changeOf_75 (by omega) (by omega) (fun c33 => ?_) (fun c33 => ?_)
                · skip
                  refine r_iincN (n := 1) hX [(0, .ref (L.1 (b + 4))), (1, .int (nI t)), (2, .int (nI p.1)), (3, .int (nI p.2)), (4, .int (nI (k + 1))), (5, .int (nI b0))] dX8_changeOf_89 rfl hN4 rfl ?_
                  refine r_goto hX dX8_changeOf_92 ?_
                  have q34 : (chH (chK A t (k + 1))) = nI p.1 := (by rw [chK_n c17 hdf hch (fun q => q.elim (fun q => absurd q (by omega)) (fun q => absurd q.2 (by omega)))]; rfl)
                  have q35 : (chN (chK A t (k + 1))) = nI p.2 := (by rw [chK_n c17 hdf hch (fun q => q.elim (fun q => absurd q (by omega)) (fun q => absurd q.2 (by omega)))]; rfl)
                  exact At.less (At.to (ls := [(0, .ref (L.1 (b + 4))), (1, .int (nI t)), (2, .int (nI p.1)), (3, .int (nI p.2)), (4, .int (nI (k + 1)))]) ih3 (by rw [q34, q35]) rfl rfl) (by simp)
                · skip
                  refine r_aload_n hX dX8_changeOf_78 rfl ?_
                  refine r_getR hX dX8_changeOf_79 fl_X8_25 (hC.1 4 (7, 0) rfl) rfl (hC.2.1 4 4 12 rfl) ?_
                  refine r_iload hX dX8_changeOf_82 rfl ?_
                  refine r_aldN hX dX8_changeOf_84 (hC.1 12 (10, 24) rfl) (by decide) (by omega) (nI (aF A k 3)) (hW.2.2.2.2.1 k (by omega)) ?_
                  refine r_istore_n hX [(0, .ref (L.1 (b + 4))), (1, .int (nI t)), (2, .int (nI (aF A k 3))), (3, .int (nI p.2)), (4, .int (nI k)), (5, .int (nI b0))] dX8_changeOf_85 hN2 rfl ?_
                  refine r_iload hX dX8_changeOf_86 rfl ?_
                  refine r_istore_n hX [(0, .ref (L.1 (b + 4))), (1, .int (nI t)), (2, .int (nI (aF A k 3))), (3, .int (nI b0)), (4, .int (nI k)), (5, .int (nI b0))] dX8_changeOf_88 hN3 rfl ?_
                  refine r_iincN (n := 1) hX [(0, .ref (L.1 (b + 4))), (1, .int (nI t)), (2, .int (nI (aF A k 3))), (3, .int (nI b0)), (4, .int (nI (k + 1))), (5, .int (nI b0))] dX8_changeOf_89 rfl hN4 rfl ?_
                  refine r_goto hX dX8_changeOf_92 ?_
                  have q36 : (chH (chK A t (k + 1))) = nI (aF A k 3) := (by rw [chK_y c17 hdf hch (Or.inr ⟨c30, c33⟩)]; rfl)
                  have q37 : (chN (chK A t (k + 1))) = nI b0 := (by rw [chK_y c17 hdf hch (Or.inr ⟨c30, c33⟩)]; rfl)
                  exact At.less (At.to (ls := [(0, .ref (L.1 (b + 4))), (1, .int (nI t)), (2, .int (nI (aF A k 3))), (3, .int (nI b0)), (4, .int (nI (k + 1)))]) ih3 (by rw [q36, q37]) rfl rfl) (by simp)
  exact At.to (P1 0 (Nat.zero_le _)) rfl rfl rfl
