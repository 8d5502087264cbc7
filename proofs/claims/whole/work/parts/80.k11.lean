set_option maxHeartbeats 4000000 in
set_option maxRecDepth 100000 in
theorem c_X3_addThing {l : Launch} {D : Ds} {L : La}  (b : Nat) (hC : RAt L b) (σ : Me) (A : Al) (h0 : R0 σ b A) (hW : RW σ b A) (hTx : RX' L σ b A) (hV : Va A) (v : Nat) : Ct l yX3_addThing cX3_addThing 3 (some .int) { frames := 0, cells := 0, slots := 0, locals := 0 } D L σ [.ref (L.1 (b + 0)), .int (nI v)] (PI L (fun r σ2 => r = (if aT A < 6 then nI (aT A) else (-1000000003)) ∧ RC L σ2 b (adT A v) ∧ Cb b σ σ2)) := by
  refine Ct.of (by decide) (Nat.le_of_ble_eq_true rfl) ?_
  intro X hl hD hnl hX0 hQ
  have hX : Ok X cX3_addThing RX3 "addThing" { frames := 0, cells := 0, slots := 0, locals := 0 } (some .int) := hX0
  have hN2 : 2 < xn X := by rw [hnl]; decide
  have hbb := hC.2.2
  have hW24 := hV.2.2.1
  have hT6 := hV.1
  have hN12 := hV.2.1
  have hX14 := hV.2.2.2.1
  show At X L σ 0 0 [(0, .ref (L.1 (b + 0))), (1, .int (nI v))] 0 []
  refine r_aload_n hX dX3_addThing_0 rfl ?_
  refine r_getIV hX dX3_addThing_1 fl_X3_9 (hC.1 0 (2, 0) rfl) rfl (nI (aT A)) h0.1 ?_
  refine r_istore_n hX [(0, .ref (L.1 (b + 0))), (1, .int (nI v)), (2, .int (nI (aT A)))] dX3_addThing_4 hN2 rfl ?_
  refine r_iload_n hX dX3_addThing_5 rfl ?_
  refine r_bipush hX (nI 6) dX3_addThing_6 rfl ?_
  refine r_icmpN_lt hX dX3_addThing_8 (by omega) (by decide) (fun c1 => ?_) (fun c1 => ?_)
  · skip
    refine r_aload_n hX dX3_addThing_14 rfl ?_
    refine r_getR hX dX3_addThing_15 fl_X3_15 (hC.1 0 (2, 0) rfl) rfl (hC.2.1 0 1 1 rfl) ?_
    refine r_iload_n hX dX3_addThing_18 rfl ?_
    refine r_iload_n hX dX3_addThing_19 rfl ?_
    refine r_astN hX dX3_addThing_20 (hC.1 1 (10, 6) rfl) (by decide) (by omega) ?_
    refine r_aload_n hX dX3_addThing_21 rfl ?_
    refine r_getR hX dX3_addThing_22 fl_X3_19 (hC.1 0 (2, 0) rfl) rfl (hC.2.1 0 2 2 rfl) ?_
    refine r_iload_n hX dX3_addThing_25 rfl ?_
    refine r_iconst hX (nI 0) dX3_addThing_26 rfl ?_
    refine r_astN hX dX3_addThing_27 (hC.1 2 (10, 6) rfl) (by decide) (by omega) ?_
    refine r_aload_n hX dX3_addThing_28 rfl ?_
    refine r_dup hX dX3_addThing_29 rfl ?_
    refine r_getIV hX dX3_addThing_30 fl_X3_9 (hC.1 0 (2, 0) rfl) rfl (nI (aT A)) (by rw [up_n (by omega), up_n (by omega)]; exact h0.1) ?_
    refine r_iconst hX (nI 1) dX3_addThing_33 rfl ?_
    refine r_iaddN hX dX3_addThing_34 ?_
    refine r_putI hX dX3_addThing_35 fl_X3_9 (hC.1 0 (2, 0) rfl) rfl rfl rfl rfl ?_
    refine r_iload_n hX dX3_addThing_38 rfl ?_
    exact r_ireturn hX hQ dX3_addThing_39 ⟨Nat.le_of_ble_eq_true rfl, Nat.le_of_ble_eq_true rfl⟩ (PI.mk ⟨by rw [if_pos (by omega)], by unfold adT; rw [if_pos (by omega)]; exact ⟨r0_addT h0, RW.al (RW.kept hW (fun c i hc => by rw [up_n (by omega), up_n (by omega), up_n (by omega)])) rfl rfl, RX'.al (RX'.kept hTx (fun c i h1 h2 => by rw [up_n (by omega), up_n (by omega), up_n (by omega)])) rfl⟩, (Cb.up (Cb.up (Cb.up (Cb.rf b σ) (by omega)) (by omega)) (by omega))⟩)
  · skip
    refine r_ldc hX dX3_addThing_11 ko_X3_66 ?_
    exact r_ireturn hX hQ dX3_addThing_13 ⟨Nat.le_of_ble_eq_true rfl, Nat.le_of_ble_eq_true rfl⟩ (PI.mk ⟨by rw [if_neg (by omega)], by unfold adT; rw [if_neg (by omega)]; exact ⟨h0, hW, hTx⟩, Cb.rf b σ⟩)

set_option maxHeartbeats 4000000 in
set_option maxRecDepth 100000 in
theorem c_X3_addName {l : Launch} {D : Ds} {L : La}  (b : Nat) (hC : RAt L b) (σ : Me) (A : Al) (h0 : R0 σ b A) (hW : RW σ b A) (hTx : RX' L σ b A) (hV : Va A) (v : Nat) : Ct l yX3_addName cX3_addName 3 (some .int) { frames := 0, cells := 0, slots := 0, locals := 0 } D L σ [.ref (L.1 (b + 0)), .int (nI v)] (PI L (fun r σ2 => r = (if aN A < 12 then nI (aN A) else (-1000000003)) ∧ RC L σ2 b (adN A v) ∧ Cb b σ σ2)) := by
  refine Ct.of (by decide) (Nat.le_of_ble_eq_true rfl) ?_
  intro X hl hD hnl hX0 hQ
  have hX : Ok X cX3_addName RX3 "addName" { frames := 0, cells := 0, slots := 0, locals := 0 } (some .int) := hX0
  have hN2 : 2 < xn X := by rw [hnl]; decide
  have hbb := hC.2.2
  have hW24 := hV.2.2.1
  have hT6 := hV.1
  have hN12 := hV.2.1
  have hX14 := hV.2.2.2.1
  show At X L σ 0 0 [(0, .ref (L.1 (b + 0))), (1, .int (nI v))] 0 []
  refine r_aload_n hX dX3_addName_0 rfl ?_
  refine r_getIV hX dX3_addName_1 fl_X3_22 (hC.1 0 (2, 0) rfl) rfl (nI (aN A)) h0.2.1 ?_
  refine r_istore_n hX [(0, .ref (L.1 (b + 0))), (1, .int (nI v)), (2, .int (nI (aN A)))] dX3_addName_4 hN2 rfl ?_
  refine r_iload_n hX dX3_addName_5 rfl ?_
  refine r_bipush hX (nI 12) dX3_addName_6 rfl ?_
  refine r_icmpN_lt hX dX3_addName_8 (by omega) (by decide) (fun c1 => ?_) (fun c1 => ?_)
  · skip
    refine r_aload_n hX dX3_addName_14 rfl ?_
    refine r_getR hX dX3_addName_15 fl_X3_25 (hC.1 0 (2, 0) rfl) rfl (hC.2.1 0 4 3 rfl) ?_
    refine r_iload_n hX dX3_addName_18 rfl ?_
    refine r_iload_n hX dX3_addName_19 rfl ?_
    refine r_astN hX dX3_addName_20 (hC.1 3 (10, 12) rfl) (by decide) (by omega) ?_
    refine r_aload_n hX dX3_addName_21 rfl ?_
    refine r_dup hX dX3_addName_22 rfl ?_
    refine r_getIV hX dX3_addName_23 fl_X3_22 (hC.1 0 (2, 0) rfl) rfl (nI (aN A)) (by rw [up_n (by omega)]; exact h0.2.1) ?_
    refine r_iconst hX (nI 1) dX3_addName_26 rfl ?_
    refine r_iaddN hX dX3_addName_27 ?_
    refine r_putI hX dX3_addName_28 fl_X3_22 (hC.1 0 (2, 0) rfl) rfl rfl rfl rfl ?_
    refine r_iload_n hX dX3_addName_31 rfl ?_
    exact r_ireturn hX hQ dX3_addName_32 ⟨Nat.le_of_ble_eq_true rfl, Nat.le_of_ble_eq_true rfl⟩ (PI.mk ⟨by rw [if_pos (by omega)], by unfold adN; rw [if_pos (by omega)]; exact ⟨r0_addN h0, RW.al (RW.kept hW (fun c i hc => by rw [up_n (by omega), up_n (by omega)])) rfl rfl, RX'.al (RX'.kept hTx (fun c i h1 h2 => by rw [up_n (by omega), up_n (by omega)])) rfl⟩, (Cb.up (Cb.up (Cb.rf b σ) (by omega)) (by omega))⟩)
  · skip
    refine r_ldc hX dX3_addName_11 ko_X3_66 ?_
    exact r_ireturn hX hQ dX3_addName_13 ⟨Nat.le_of_ble_eq_true rfl, Nat.le_of_ble_eq_true rfl⟩ (PI.mk ⟨by rw [if_neg (by omega)], by unfold adN; rw [if_neg (by omega)]; exact ⟨h0, hW, hTx⟩, Cb.rf b σ⟩)

set_option maxHeartbeats 4000000 in
set_option maxRecDepth 100000 in
theorem c_X9_isThing {l : Launch} {D : Ds} {L : La}  (hA : CAt L) (σ : Me) (A : Al) (h0 : R0 σ 200 A) (hW : RW σ 200 A) (hTx : RX' L σ 200 A) (hV : Va A) (v : Int32) : Ct l yX9_isThing cX9_isThing 2 (some .boolean) { frames := 1, cells := 0, slots := 0, locals := 22 } D L σ [.ref (L.1 100), .int v] (PF L σ (bI (isB v (aT A)))) := by
  refine Ct.of (by decide) (Nat.le_of_ble_eq_true rfl) ?_
  intro X hl hD hnl hX0 hQ
  have hX : Ok X cX9_isThing RX9 "isThing" { frames := 1, cells := 0, slots := 0, locals := 22 } (some .boolean) := hX0
  have hC := hA.2.2
  have hbb := hC.2.2
  have hW24 := hV.2.2.1
  have hT6 := hV.1
  have hN12 := hV.2.1
  have hX14 := hV.2.2.2.1
  show At X L σ 0 0 [(0, .ref (L.1 100)), (1, .int v)] 0 []
  refine r_iload_n hX dX9_isThing_0 rfl ?_
  refine r_iconst hX (nI 0) dX9_isThing_1 rfl ?_
  refine r_aload_n hX dX9_isThing_2 rfl ?_
  refine r_getR hX dX9_isThing_3 fl_X9_10 (hA.1 100 (8, 0) rfl) rfl (hA.2.1 100 0 200 rfl) ?_
  refine r_getIV hX dX9_isThing_6 fl_X9_192 (hC.1 0 (2, 0) rfl) rfl (nI (aT A)) h0.1 ?_
  refine r_iconst hX (nI 1) dX9_isThing_9 rfl ?_
  refine r_isub hX dX9_isThing_10 ?_
  refine r_callSF (As := [.int v, .int (nI 0), .int ((nI (aT A)) - (nI 1))]) (rest := []) hX (c_X9_within σ v (nI 0) ((nI (aT A)) - (nI 1))) dX9_isThing_11 cb_X9_67 rfl rfl ⟨Nat.le_of_ble_eq_true rfl, Nat.le_of_ble_eq_true rfl⟩ ⟨Nat.le_of_ble_eq_true rfl, Nat.le_of_ble_eq_true rfl⟩ (Nat.le_of_ble_eq_true rfl) ?_
  exact r_zreturn hX hQ dX9_isThing_14 ⟨Nat.le_of_ble_eq_true rfl, Nat.le_of_ble_eq_true rfl⟩ (nar_bI _) (PF.mk rfl)

set_option maxHeartbeats 4000000 in
set_option maxRecDepth 100000 in
theorem c_X9_isWord {l : Launch} {D : Ds} {L : La}  (hA : CAt L) (σ : Me) (A : Al) (h0 : R0 σ 200 A) (hW : RW σ 200 A) (hTx : RX' L σ 200 A) (hV : Va A) (v : Int32) : Ct l yX9_isWord cX9_isWord 2 (some .boolean) { frames := 1, cells := 0, slots := 0, locals := 22 } D L σ [.ref (L.1 100), .int v] (PF L σ (bI (isB v (aW A)))) := by
  refine Ct.of (by decide) (Nat.le_of_ble_eq_true rfl) ?_
  intro X hl hD hnl hX0 hQ
  have hX : Ok X cX9_isWord RX9 "isWord" { frames := 1, cells := 0, slots := 0, locals := 22 } (some .boolean) := hX0
  have hC := hA.2.2
  have hbb := hC.2.2
  have hW24 := hV.2.2.1
  have hT6 := hV.1
  have hN12 := hV.2.1
  have hX14 := hV.2.2.2.1
  show At X L σ 0 0 [(0, .ref (L.1 100)), (1, .int v)] 0 []
  refine r_iload_n hX dX9_isWord_0 rfl ?_
  refine r_iconst hX (nI 0) dX9_isWord_1 rfl ?_
  refine r_aload_n hX dX9_isWord_2 rfl ?_
  refine r_getR hX dX9_isWord_3 fl_X9_10 (hA.1 100 (8, 0) rfl) rfl (hA.2.1 100 0 200 rfl) ?_
  refine r_getR hX dX9_isWord_6 fl_X9_86 (hC.1 0 (2, 0) rfl) rfl (hC.2.1 0 5 4 rfl) ?_
  refine r_getIV hX dX9_isWord_9 fl_X9_176 (hC.1 4 (7, 0) rfl) rfl (nI (aW A)) hW.1 ?_
  refine r_iconst hX (nI 1) dX9_isWord_12 rfl ?_
  refine r_isub hX dX9_isWord_13 ?_
  refine r_callSF (As := [.int v, .int (nI 0), .int ((nI (aW A)) - (nI 1))]) (rest := []) hX (c_X9_within σ v (nI 0) ((nI (aW A)) - (nI 1))) dX9_isWord_14 cb_X9_67 rfl rfl ⟨Nat.le_of_ble_eq_true rfl, Nat.le_of_ble_eq_true rfl⟩ ⟨Nat.le_of_ble_eq_true rfl, Nat.le_of_ble_eq_true rfl⟩ (Nat.le_of_ble_eq_true rfl) ?_
  exact r_zreturn hX hQ dX9_isWord_17 ⟨Nat.le_of_ble_eq_true rfl, Nat.le_of_ble_eq_true rfl⟩ (nar_bI _) (PF.mk rfl)

set_option maxHeartbeats 4000000 in
set_option maxRecDepth 100000 in
theorem c_X9_isPair {l : Launch} {D : Ds} {L : La}  (hA : CAt L) (σ : Me) (A : Al) (h0 : R0 σ 200 A) (hW : RW σ 200 A) (hTx : RX' L σ 200 A) (hV : Va A) (v : Int32) : Ct l yX9_isPair cX9_isPair 2 (some .boolean) { frames := 0, cells := 0, slots := 0, locals := 0 } D L σ [.ref (L.1 100), .int v] (PF L σ (bI (ofB A v))) := by
  refine Ct.of (by decide) (Nat.le_of_ble_eq_true rfl) ?_
  intro X hl hD hnl hX0 hQ
  have hX : Ok X cX9_isPair RX9 "isPair" { frames := 0, cells := 0, slots := 0, locals := 0 } (some .boolean) := hX0
  have hC := hA.2.2
  have hbb := hC.2.2
  have hW24 := hV.2.2.1
  have hT6 := hV.1
  have hN12 := hV.2.1
  have hX14 := hV.2.2.2.1
  show At X L σ 0 0 [(0, .ref (L.1 100)), (1, .int v)] 0 []
  refine r_iload_n hX dX9_isPair_0 rfl ?_
  refine r_if_lt hX dX9_isPair_1 (fun c1 => ?_) (fun c1 => ?_)
  · skip
    refine r_iconst hX (nI 0) dX9_isPair_36 rfl ?_
    exact r_zreturn hX hQ dX9_isPair_37 ⟨Nat.le_of_ble_eq_true rfl, Nat.le_of_ble_eq_true rfl⟩ rfl (PF.mk (by rw [pair_eq hV]; clear  hQ hX hX0  hl hD hnl; clear hTx hW h0 hV hA; grind [bI]))
  · skip
    refine r_iload_n hX dX9_isPair_4 rfl ?_
    refine r_bipush hX (nI 100) dX9_isPair_5 rfl ?_
    refine r_idiv hX dX9_isPair_7 (by decide) ?_
    refine r_aload_n hX dX9_isPair_8 rfl ?_
    refine r_getR hX dX9_isPair_9 fl_X9_10 (hA.1 100 (8, 0) rfl) rfl (hA.2.1 100 0 200 rfl) ?_
    refine r_getIV hX dX9_isPair_12 fl_X9_192 (hC.1 0 (2, 0) rfl) rfl (nI (aT A)) h0.1 ?_
    refine r_icmp_ge hX dX9_isPair_15 (fun c2 => ?_) (fun c2 => ?_)
    · skip
      refine r_iconst hX (nI 0) dX9_isPair_36 rfl ?_
      exact r_zreturn hX hQ dX9_isPair_37 ⟨Nat.le_of_ble_eq_true rfl, Nat.le_of_ble_eq_true rfl⟩ rfl (PF.mk (by rw [pair_eq hV]; clear  hQ hX hX0  hl hD hnl; clear hTx hW h0 hV hA; grind [bI]))
    · skip
      refine r_iload_n hX dX9_isPair_18 rfl ?_
      refine r_bipush hX (nI 100) dX9_isPair_19 rfl ?_
      refine r_irem hX dX9_isPair_21 (by decide) ?_
      refine r_aload_n hX dX9_isPair_22 rfl ?_
      refine r_getR hX dX9_isPair_23 fl_X9_10 (hA.1 100 (8, 0) rfl) rfl (hA.2.1 100 0 200 rfl) ?_
      refine r_getIV hX dX9_isPair_26 fl_X9_107 (hC.1 0 (2, 0) rfl) rfl (nI (aN A)) h0.2.1 ?_
      refine r_icmp_ge hX dX9_isPair_29 (fun c3 => ?_) (fun c3 => ?_)
      · skip
        refine r_iconst hX (nI 0) dX9_isPair_36 rfl ?_
        exact r_zreturn hX hQ dX9_isPair_37 ⟨Nat.le_of_ble_eq_true rfl, Nat.le_of_ble_eq_true rfl⟩ rfl (PF.mk (by rw [pair_eq hV]; clear  hQ hX hX0  hl hD hnl; clear hTx hW h0 hV hA; grind [bI]))
      · skip
        refine r_iconst hX (nI 1) dX9_isPair_32 rfl ?_
        refine r_goto hX dX9_isPair_33 ?_
        exact r_zreturn hX hQ dX9_isPair_37 ⟨Nat.le_of_ble_eq_true rfl, Nat.le_of_ble_eq_true rfl⟩ rfl (PF.mk (by rw [pair_eq hV]; clear  hQ hX hX0  hl hD hnl; clear hTx hW h0 hV hA; grind [bI]))

set_option maxHeartbeats 4000000 in
set_option maxRecDepth 100000 in
theorem c_X9_thing {l : Launch} {D : Ds} {L : La}  (hA : CAt L) (σ : Me) (A : Al) (h0 : R0 σ 200 A) (hW : RW σ 200 A) (hTx : RX' L σ 200 A) (hV : Va A) (v : Int32) : Ct l yX9_thing cX9_thing 2 (some .int) { frames := 1, cells := 0, slots := 0, locals := 22 } D L σ [.ref (L.1 100), .int v] (PI L (fun r σ2 => r = (oThing A v).1 ∧ RC L σ2 200 (oThing A v).2 ∧ Cb 200 σ σ2)) := by
  refine Ct.of (by decide) (Nat.le_of_ble_eq_true rfl) ?_
  intro X hl hD hnl hX0 hQ
  have hX : Ok X cX9_thing RX9 "thing" { frames := 1, cells := 0, slots := 0, locals := 22 } (some .int) := hX0
  have hC := hA.2.2
  have hbb := hC.2.2
  have hW24 := hV.2.2.1
  have hT6 := hV.1
  have hN12 := hV.2.1
  have hX14 := hV.2.2.2.1
  show At X L σ 0 0 [(0, .ref (L.1 100)), (1, .int v)] 0 []
  refine r_iload_n hX dX9_thing_0 rfl ?_
  refine r_iconst hX (nI 0) dX9_thing_1 rfl ?_
  refine r_bipush hX (nI 100) dX9_thing_2 rfl ?_
  refine r_callSF (As := [.int v, .int (nI 0), .int (nI 100)]) (rest := []) hX (c_X9_within σ v (nI 0) (nI 100)) dX9_thing_4 cb_X9_67 rfl rfl ⟨Nat.le_of_ble_eq_true rfl, Nat.le_of_ble_eq_true rfl⟩ ⟨Nat.le_of_ble_eq_true rfl, Nat.le_of_ble_eq_true rfl⟩ (Nat.le_of_ble_eq_true rfl) ?_
  refine r_ifB_eq hX dX9_thing_7 (fun c1 => ?_) (fun c1 => ?_)
  · skip
    refine r_ldc hX dX9_thing_21 ko_X9_75 ?_
    exact r_ireturn hX hQ dX9_thing_23 ⟨Nat.le_of_ble_eq_true rfl, Nat.le_of_ble_eq_true rfl⟩ (PI.mk (by rw [oThing, if_neg (by rw [c1]; decide)]; exact ⟨rfl, ⟨h0, hW, hTx⟩, (Cb.rf 200 σ)⟩))
  · skip
    obtain ⟨q, hql, hq, rfl⟩ := inB_nat c1 (by decide) (by decide)
    refine r_aload_n hX dX9_thing_10 rfl ?_
    refine r_getR hX dX9_thing_11 fl_X9_10 (hA.1 100 (8, 0) rfl) rfl (hA.2.1 100 0 200 rfl) ?_
    refine r_iload_n hX dX9_thing_14 rfl ?_
    refine r_callVI (As := [.int (nI q)]) (rest := []) hX (c_X3_addThing 200 hC σ A h0 hW hTx hV q) dX9_thing_15 cb_X9_71 (hC.1 0 (2, 0) rfl) rfl rfl ⟨Nat.le_of_ble_eq_true rfl, Nat.le_of_ble_eq_true rfl⟩ ⟨Nat.le_of_ble_eq_true rfl, Nat.le_of_ble_eq_true rfl⟩ (Nat.le_of_ble_eq_true rfl) (fun r2 σ3 h4 => ?_)
    obtain ⟨rfl, hRC5, hS6⟩ := h4
    refine r_goto hX dX9_thing_18 ?_
    exact r_ireturn hX hQ dX9_thing_23 ⟨Nat.le_of_ble_eq_true rfl, Nat.le_of_ble_eq_true rfl⟩ (PI.mk (by rw [oThing, if_pos c1, nI_clamp (by omega)]; exact thing_fin (by omega) hRC5 (Cb.tr (Cb.rf 200 σ) hS6)))

set_option maxHeartbeats 4000000 in
set_option maxRecDepth 100000 in
theorem c_X9_name {l : Launch} {D : Ds} {L : La}  (hA : CAt L) (σ : Me) (A : Al) (h0 : R0 σ 200 A) (hW : RW σ 200 A) (hTx : RX' L σ 200 A) (hV : Va A) (v : Int32) : Ct l yX9_name cX9_name 2 (some .int) { frames := 2, cells := 0, slots := 0, locals := 42 } D L σ [.ref (L.1 100), .int v] (PI L (fun r σ2 => r = (oName A v).1 ∧ RC L σ2 200 (oName A v).2 ∧ Cb 200 σ σ2)) := by
  refine Ct.of (by decide) (Nat.le_of_ble_eq_true rfl) ?_
  intro X hl hD hnl hX0 hQ
  have hX : Ok X cX9_name RX9 "name" { frames := 2, cells := 0, slots := 0, locals := 42 } (some .int) := hX0
  have hC := hA.2.2
  have hbb := hC.2.2
  have hW24 := hV.2.2.1
  have hT6 := hV.1
  have hN12 := hV.2.1
  have hX14 := hV.2.2.2.1
  show At X L σ 0 0 [(0, .ref (L.1 100)), (1, .int v)] 0 []
  refine r_iload_n hX dX9_name_0 rfl ?_
  refine r_callSF (As := [.int v]) (rest := []) hX (c_X9_isHour σ v) dX9_name_1 cb_X9_101 rfl rfl ⟨Nat.le_of_ble_eq_true rfl, Nat.le_of_ble_eq_true rfl⟩ ⟨Nat.le_of_ble_eq_true rfl, Nat.le_of_ble_eq_true rfl⟩ (Nat.le_of_ble_eq_true rfl) ?_
  refine r_ifB_eq hX dX9_name_4 (fun c1 => ?_) (fun c1 => ?_)
  · skip
    refine r_ldc hX dX9_name_18 ko_X9_75 ?_
    exact r_ireturn hX hQ dX9_name_20 ⟨Nat.le_of_ble_eq_true rfl, Nat.le_of_ble_eq_true rfl⟩ (PI.mk (by rw [oName, if_neg (by rw [c1]; decide)]; exact ⟨rfl, ⟨h0, hW, hTx⟩, (Cb.rf 200 σ)⟩))
  · skip
    obtain ⟨q, hql, hq, rfl⟩ := inB_nat c1 (by decide) (by decide)
    refine r_aload_n hX dX9_name_7 rfl ?_
    refine r_getR hX dX9_name_8 fl_X9_10 (hA.1 100 (8, 0) rfl) rfl (hA.2.1 100 0 200 rfl) ?_
    refine r_iload_n hX dX9_name_11 rfl ?_
    refine r_callVI (As := [.int (nI q)]) (rest := []) hX (c_X3_addName 200 hC σ A h0 hW hTx hV q) dX9_name_12 cb_X9_104 (hC.1 0 (2, 0) rfl) rfl rfl ⟨Nat.le_of_ble_eq_true rfl, Nat.le_of_ble_eq_true rfl⟩ ⟨Nat.le_of_ble_eq_true rfl, Nat.le_of_ble_eq_true rfl⟩ (Nat.le_of_ble_eq_true rfl) (fun r2 σ3 h4 => ?_)
    obtain ⟨rfl, hRC5, hS6⟩ := h4
    refine r_goto hX dX9_name_15 ?_
    exact r_ireturn hX hQ dX9_name_20 ⟨Nat.le_of_ble_eq_true rfl, Nat.le_of_ble_eq_true rfl⟩ (PI.mk (by rw [oName, if_pos c1, nI_clamp (by omega)]; exact name_fin (by omega) hRC5 (Cb.tr (Cb.rf 200 σ) hS6)))
