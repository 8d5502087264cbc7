set_option maxHeartbeats 4000000 in
set_option maxRecDepth 100000 in
theorem c_X9_within {l : Launch} {D : Ds} {L : La}  (σ : Me) (v lo hi : Int32) : Ct l yX9_within cX9_within 3 (some .boolean) { frames := 0, cells := 0, slots := 0, locals := 0 } D L σ [.int v, .int lo, .int hi] (PF L σ (bI (inB v lo hi))) := by
  refine Ct.of (by decide) (Nat.le_of_ble_eq_true rfl) ?_
  intro X hl hD hnl hX0 hQ
  have hX : Ok X cX9_within RX9 "within" { frames := 0, cells := 0, slots := 0, locals := 0 } (some .boolean) := hX0
  show At X L σ 0 0 [(0, .int v), (1, .int lo), (2, .int hi)] 0 []
  refine r_iload_n hX dX9_within_0 rfl ?_
  refine r_iload_n hX dX9_within_1 rfl ?_
  refine r_icmp_lt hX dX9_within_2 (fun c1 => ?_) (fun c1 => ?_)
  · skip
    refine r_iconst hX (nI 0) dX9_within_14 rfl ?_
    exact r_zreturn hX hQ dX9_within_15 ⟨Nat.le_of_ble_eq_true rfl, Nat.le_of_ble_eq_true rfl⟩ rfl (PF.mk (by clear  hQ hX hX0  hl hD hnl; grind [inB, bI]))
  · skip
    refine r_iload_n hX dX9_within_5 rfl ?_
    refine r_iload_n hX dX9_within_6 rfl ?_
    refine r_icmp_gt hX dX9_within_7 (fun c2 => ?_) (fun c2 => ?_)
    · skip
      refine r_iconst hX (nI 0) dX9_within_14 rfl ?_
      exact r_zreturn hX hQ dX9_within_15 ⟨Nat.le_of_ble_eq_true rfl, Nat.le_of_ble_eq_true rfl⟩ rfl (PF.mk (by clear  hQ hX hX0  hl hD hnl; grind [inB, bI]))
    · skip
      refine r_iconst hX (nI 1) dX9_within_10 rfl ?_
      refine r_goto hX dX9_within_11 ?_
      exact r_zreturn hX hQ dX9_within_15 ⟨Nat.le_of_ble_eq_true rfl, Nat.le_of_ble_eq_true rfl⟩ rfl (PF.mk (by clear  hQ hX hX0  hl hD hnl; grind [inB, bI]))

set_option maxHeartbeats 4000000 in
set_option maxRecDepth 100000 in
theorem c_X9_isHour {l : Launch} {D : Ds} {L : La}  (σ : Me) (v : Int32) : Ct l yX9_isHour cX9_isHour 1 (some .boolean) { frames := 1, cells := 0, slots := 0, locals := 22 } D L σ [.int v] (PF L σ (bI (inB v (nI 0) (nI 999)))) := by
  refine Ct.of (by decide) (Nat.le_of_ble_eq_true rfl) ?_
  intro X hl hD hnl hX0 hQ
  have hX : Ok X cX9_isHour RX9 "isHour" { frames := 1, cells := 0, slots := 0, locals := 22 } (some .boolean) := hX0
  show At X L σ 0 0 [(0, .int v)] 0 []
  refine r_iload_n hX dX9_isHour_0 rfl ?_
  refine r_iconst hX (nI 0) dX9_isHour_1 rfl ?_
  refine r_sipush hX (nI 999) dX9_isHour_2 rfl ?_
  refine r_callSF (As := [.int v, .int (nI 0), .int (nI 999)]) (rest := []) hX (c_X9_within σ v (nI 0) (nI 999)) dX9_isHour_5 cb_X9_67 rfl rfl ⟨Nat.le_of_ble_eq_true rfl, Nat.le_of_ble_eq_true rfl⟩ ⟨Nat.le_of_ble_eq_true rfl, Nat.le_of_ble_eq_true rfl⟩ (Nat.le_of_ble_eq_true rfl) ?_
  exact r_zreturn hX hQ dX9_isHour_8 ⟨Nat.le_of_ble_eq_true rfl, Nat.le_of_ble_eq_true rfl⟩ (nar_bI _) (PF.mk rfl)

set_option maxHeartbeats 4000000 in
set_option maxRecDepth 100000 in
theorem c_X9_isStars {l : Launch} {D : Ds} {L : La}  (σ : Me) (v : Int32) : Ct l yX9_isStars cX9_isStars 1 (some .boolean) { frames := 1, cells := 0, slots := 0, locals := 22 } D L σ [.int v] (PF L σ (bI (inB v (nI 1) (nI 5)))) := by
  refine Ct.of (by decide) (Nat.le_of_ble_eq_true rfl) ?_
  intro X hl hD hnl hX0 hQ
  have hX : Ok X cX9_isStars RX9 "isStars" { frames := 1, cells := 0, slots := 0, locals := 22 } (some .boolean) := hX0
  show At X L σ 0 0 [(0, .int v)] 0 []
  refine r_iload_n hX dX9_isStars_0 rfl ?_
  refine r_iconst hX (nI 1) dX9_isStars_1 rfl ?_
  refine r_iconst hX (nI 5) dX9_isStars_2 rfl ?_
  refine r_callSF (As := [.int v, .int (nI 1), .int (nI 5)]) (rest := []) hX (c_X9_within σ v (nI 1) (nI 5)) dX9_isStars_3 cb_X9_67 rfl rfl ⟨Nat.le_of_ble_eq_true rfl, Nat.le_of_ble_eq_true rfl⟩ ⟨Nat.le_of_ble_eq_true rfl, Nat.le_of_ble_eq_true rfl⟩ (Nat.le_of_ble_eq_true rfl) ?_
  exact r_zreturn hX hQ dX9_isStars_6 ⟨Nat.le_of_ble_eq_true rfl, Nat.le_of_ble_eq_true rfl⟩ (nar_bI _) (PF.mk rfl)

set_option maxHeartbeats 4000000 in
set_option maxRecDepth 100000 in
theorem c_X9_isKind {l : Launch} {D : Ds} {L : La}  (σ : Me) (v : Int32) : Ct l yX9_isKind cX9_isKind 1 (some .boolean) { frames := 1, cells := 0, slots := 0, locals := 22 } D L σ [.int v] (PF L σ (bI (inB v (nI 0) (nI 5)))) := by
  refine Ct.of (by decide) (Nat.le_of_ble_eq_true rfl) ?_
  intro X hl hD hnl hX0 hQ
  have hX : Ok X cX9_isKind RX9 "isKind" { frames := 1, cells := 0, slots := 0, locals := 22 } (some .boolean) := hX0
  show At X L σ 0 0 [(0, .int v)] 0 []
  refine r_iload_n hX dX9_isKind_0 rfl ?_
  refine r_iconst hX (nI 0) dX9_isKind_1 rfl ?_
  refine r_iconst hX (nI 5) dX9_isKind_2 rfl ?_
  refine r_callSF (As := [.int v, .int (nI 0), .int (nI 5)]) (rest := []) hX (c_X9_within σ v (nI 0) (nI 5)) dX9_isKind_3 cb_X9_67 rfl rfl ⟨Nat.le_of_ble_eq_true rfl, Nat.le_of_ble_eq_true rfl⟩ ⟨Nat.le_of_ble_eq_true rfl, Nat.le_of_ble_eq_true rfl⟩ (Nat.le_of_ble_eq_true rfl) ?_
  exact r_zreturn hX hQ dX9_isKind_6 ⟨Nat.le_of_ble_eq_true rfl, Nat.le_of_ble_eq_true rfl⟩ (nar_bI _) (PF.mk rfl)

set_option maxHeartbeats 4000000 in
set_option maxRecDepth 100000 in
theorem c_X9_isSheet {l : Launch} {D : Ds} {L : La}  (σ : Me) (v : Int32) : Ct l yX9_isSheet cX9_isSheet 1 (some .boolean) { frames := 1, cells := 0, slots := 0, locals := 22 } D L σ [.int v] (PF L σ (bI (inB v (nI 0) (nI 3)))) := by
  refine Ct.of (by decide) (Nat.le_of_ble_eq_true rfl) ?_
  intro X hl hD hnl hX0 hQ
  have hX : Ok X cX9_isSheet RX9 "isSheet" { frames := 1, cells := 0, slots := 0, locals := 22 } (some .boolean) := hX0
  show At X L σ 0 0 [(0, .int v)] 0 []
  refine r_iload_n hX dX9_isSheet_0 rfl ?_
  refine r_iconst hX (nI 0) dX9_isSheet_1 rfl ?_
  refine r_iconst hX (nI 3) dX9_isSheet_2 rfl ?_
  refine r_callSF (As := [.int v, .int (nI 0), .int (nI 3)]) (rest := []) hX (c_X9_within σ v (nI 0) (nI 3)) dX9_isSheet_3 cb_X9_67 rfl rfl ⟨Nat.le_of_ble_eq_true rfl, Nat.le_of_ble_eq_true rfl⟩ ⟨Nat.le_of_ble_eq_true rfl, Nat.le_of_ble_eq_true rfl⟩ (Nat.le_of_ble_eq_true rfl) ?_
  exact r_zreturn hX hQ dX9_isSheet_6 ⟨Nat.le_of_ble_eq_true rfl, Nat.le_of_ble_eq_true rfl⟩ (nar_bI _) (PF.mk rfl)

set_option maxHeartbeats 4000000 in
set_option maxRecDepth 100000 in
theorem c_X9_isSlot {l : Launch} {D : Ds} {L : La}  (σ : Me) (v : Int32) : Ct l yX9_isSlot cX9_isSlot 1 (some .boolean) { frames := 1, cells := 0, slots := 0, locals := 22 } D L σ [.int v] (PF L σ (bI (inB v (nI 0) (nI 4)))) := by
  refine Ct.of (by decide) (Nat.le_of_ble_eq_true rfl) ?_
  intro X hl hD hnl hX0 hQ
  have hX : Ok X cX9_isSlot RX9 "isSlot" { frames := 1, cells := 0, slots := 0, locals := 22 } (some .boolean) := hX0
  show At X L σ 0 0 [(0, .int v)] 0 []
  refine r_iload_n hX dX9_isSlot_0 rfl ?_
  refine r_iconst hX (nI 0) dX9_isSlot_1 rfl ?_
  refine r_iconst hX (nI 4) dX9_isSlot_2 rfl ?_
  refine r_callSF (As := [.int v, .int (nI 0), .int (nI 4)]) (rest := []) hX (c_X9_within σ v (nI 0) (nI 4)) dX9_isSlot_3 cb_X9_67 rfl rfl ⟨Nat.le_of_ble_eq_true rfl, Nat.le_of_ble_eq_true rfl⟩ ⟨Nat.le_of_ble_eq_true rfl, Nat.le_of_ble_eq_true rfl⟩ (Nat.le_of_ble_eq_true rfl) ?_
  exact r_zreturn hX hQ dX9_isSlot_6 ⟨Nat.le_of_ble_eq_true rfl, Nat.le_of_ble_eq_true rfl⟩ (nar_bI _) (PF.mk rfl)

set_option maxHeartbeats 4000000 in
set_option maxRecDepth 100000 in
theorem c_X9_isMoment {l : Launch} {D : Ds} {L : La}  (σ : Me) (v : Int32) : Ct l yX9_isMoment cX9_isMoment 1 (some .boolean) { frames := 2, cells := 0, slots := 0, locals := 42 } D L σ [.int v] (PF L σ (bI (atB v))) := by
  refine Ct.of (by decide) (Nat.le_of_ble_eq_true rfl) ?_
  intro X hl hD hnl hX0 hQ
  have hX : Ok X cX9_isMoment RX9 "isMoment" { frames := 2, cells := 0, slots := 0, locals := 42 } (some .boolean) := hX0
  show At X L σ 0 0 [(0, .int v)] 0 []
  refine r_iload_n hX dX9_isMoment_0 rfl ?_
  refine r_if_lt hX dX9_isMoment_1 (fun c1 => ?_) (fun c1 => ?_)
  · skip
    refine r_iconst hX (nI 0) dX9_isMoment_28 rfl ?_
    exact r_zreturn hX hQ dX9_isMoment_29 ⟨Nat.le_of_ble_eq_true rfl, Nat.le_of_ble_eq_true rfl⟩ rfl (PF.mk (by rw [mom_eq v]; clear  hQ hX hX0  hl hD hnl; grind [bI]))
  · skip
    refine r_iload_n hX dX9_isMoment_4 rfl ?_
    refine r_bipush hX (nI 10) dX9_isMoment_5 rfl ?_
    refine r_idiv hX dX9_isMoment_7 (by decide) ?_
    refine r_callSF (As := [.int (v / (nI 10))]) (rest := []) hX (c_X9_isHour σ (v / (nI 10))) dX9_isMoment_8 cb_X9_101 rfl rfl ⟨Nat.le_of_ble_eq_true rfl, Nat.le_of_ble_eq_true rfl⟩ ⟨Nat.le_of_ble_eq_true rfl, Nat.le_of_ble_eq_true rfl⟩ (Nat.le_of_ble_eq_true rfl) ?_
    refine r_ifB_eq hX dX9_isMoment_11 (fun c2 => ?_) (fun c2 => ?_)
    · skip
      refine r_iconst hX (nI 0) dX9_isMoment_28 rfl ?_
      exact r_zreturn hX hQ dX9_isMoment_29 ⟨Nat.le_of_ble_eq_true rfl, Nat.le_of_ble_eq_true rfl⟩ rfl (PF.mk (by rw [mom_eq v]; clear  hQ hX hX0  hl hD hnl; grind [bI]))
    · skip
      refine r_iload_n hX dX9_isMoment_14 rfl ?_
      refine r_bipush hX (nI 10) dX9_isMoment_15 rfl ?_
      refine r_irem hX dX9_isMoment_17 (by decide) ?_
      refine r_callSF (As := [.int (rem v (nI 10))]) (rest := []) hX (c_X9_isStars σ (rem v (nI 10))) dX9_isMoment_18 cb_X9_169 rfl rfl ⟨Nat.le_of_ble_eq_true rfl, Nat.le_of_ble_eq_true rfl⟩ ⟨Nat.le_of_ble_eq_true rfl, Nat.le_of_ble_eq_true rfl⟩ (Nat.le_of_ble_eq_true rfl) ?_
      refine r_ifB_eq hX dX9_isMoment_21 (fun c3 => ?_) (fun c3 => ?_)
      · skip
        refine r_iconst hX (nI 0) dX9_isMoment_28 rfl ?_
        exact r_zreturn hX hQ dX9_isMoment_29 ⟨Nat.le_of_ble_eq_true rfl, Nat.le_of_ble_eq_true rfl⟩ rfl (PF.mk (by rw [mom_eq v]; clear  hQ hX hX0  hl hD hnl; grind [bI]))
      · skip
        refine r_iconst hX (nI 1) dX9_isMoment_24 rfl ?_
        refine r_goto hX dX9_isMoment_25 ?_
        exact r_zreturn hX hQ dX9_isMoment_29 ⟨Nat.le_of_ble_eq_true rfl, Nat.le_of_ble_eq_true rfl⟩ rfl (PF.mk (by rw [mom_eq v]; clear  hQ hX hX0  hl hD hnl; grind [bI]))

set_option maxHeartbeats 4000000 in
set_option maxRecDepth 100000 in
theorem c_X8_room {l : Launch} {D : Ds} {L : La}  (b : Nat) (hC : RAt L b) (σ : Me) (A : Al) (hW : RW σ b A) (hV : Va A) : Ct l yX8_room cX8_room 1 (some .int) { frames := 0, cells := 0, slots := 0, locals := 0 } D L σ [.ref (L.1 (b + 4))] (PF L σ (nI (24 - aW A))) := by
  refine Ct.of (by decide) (Nat.le_of_ble_eq_true rfl) ?_
  intro X hl hD hnl hX0 hQ
  have hX : Ok X cX8_room RX8 "room" { frames := 0, cells := 0, slots := 0, locals := 0 } (some .int) := hX0
  have hW24 := hV.2.2.1
  show At X L σ 0 0 [(0, .ref (L.1 (b + 4)))] 0 []
  refine r_bipush hX (nI 24) dX8_room_0 rfl ?_
  refine r_aload_n hX dX8_room_2 rfl ?_
  refine r_getIV hX dX8_room_3 fl_X8_9 (hC.1 4 (7, 0) rfl) rfl (nI (aW A)) hW.1 ?_
  refine r_isubN hX dX8_room_6 (by omega) ?_
  exact r_ireturn hX hQ dX8_room_7 ⟨Nat.le_of_ble_eq_true rfl, Nat.le_of_ble_eq_true rfl⟩ (PF.mk rfl)

set_option maxHeartbeats 4000000 in
set_option maxRecDepth 100000 in
theorem c_X8_saysOf {l : Launch} {D : Ds} {L : La}  (b : Nat) (hC : RAt L b) (σ : Me) (A : Al) (hW : RW σ b A) (hV : Va A) (w : Nat) (hw : w < aW A) : Ct l yX8_saysOf cX8_saysOf 2 (some .int) { frames := 1, cells := 0, slots := 0, locals := 22 } D L σ [.ref (L.1 (b + 4)), .int (nI w)] (PF L σ (nI (sayN (aF A w 0) (aF A w 4)))) := by
  refine Ct.of (by decide) (Nat.le_of_ble_eq_true rfl) ?_
  intro X hl hD hnl hX0 hQ
  have hX : Ok X cX8_saysOf RX8 "saysOf" { frames := 1, cells := 0, slots := 0, locals := 22 } (some .int) := hX0
  have hW24 := hV.2.2.1
  have hwf := hV.2.2.2.2.2.2.1 w hw
  show At X L σ 0 0 [(0, .ref (L.1 (b + 4))), (1, .int (nI w))] 0 []
  refine r_aload_n hX dX8_saysOf_0 rfl ?_
  refine r_getR hX dX8_saysOf_1 fl_X8_15 (hC.1 4 (7, 0) rfl) rfl (hC.2.1 4 1 9 rfl) ?_
  refine r_iload_n hX dX8_saysOf_4 rfl ?_
  refine r_aldN hX dX8_saysOf_5 (hC.1 9 (10, 24) rfl) (by decide) (by omega) (nI (aF A w 0)) (hW.2.1 w (by omega)) ?_
  refine r_aload_n hX dX8_saysOf_6 rfl ?_
  refine r_getR hX dX8_saysOf_7 fl_X8_28 (hC.1 4 (7, 0) rfl) rfl (hC.2.1 4 5 13 rfl) ?_
  refine r_iload_n hX dX8_saysOf_10 rfl ?_
  refine r_aldN hX dX8_saysOf_11 (hC.1 13 (10, 24) rfl) (by decide) (by omega) (nI (aF A w 4)) (hW.2.2.2.2.2 w (by omega)) ?_
  refine r_callSF (As := [.int (nI (aF A w 0)), .int (nI (aF A w 4))]) (rest := []) hX (c_X1_says σ (aF A w 0) (aF A w 4) (by omega) (by omega) (by omega)) dX8_saysOf_12 cb_X8_42 rfl rfl ⟨Nat.le_of_ble_eq_true rfl, Nat.le_of_ble_eq_true rfl⟩ ⟨Nat.le_of_ble_eq_true rfl, Nat.le_of_ble_eq_true rfl⟩ (Nat.le_of_ble_eq_true rfl) ?_
  exact r_ireturn hX hQ dX8_saysOf_15 ⟨Nat.le_of_ble_eq_true rfl, Nat.le_of_ble_eq_true rfl⟩ (PF.mk rfl)

set_option maxHeartbeats 4000000 in
set_option maxRecDepth 100000 in
theorem c_X8_countOf {l : Launch} {D : Ds} {L : La}  (b : Nat) (hC : RAt L b) (σ : Me) (A : Al) (hW : RW σ b A) (hV : Va A) (x : Nat) (hx : x < 2 ^ 31) : Ct l yX8_countOf cX8_countOf 4 (some .int) { frames := 0, cells := 0, slots := 0, locals := 0 } D L σ [.ref (L.1 (b + 4)), .int (nI x)] (PF L σ (nI (cw A 1 x (aW A)))) := by
  refine Ct.of (by decide) (Nat.le_of_ble_eq_true rfl) ?_
  intro X hl hD hnl hX0 hQ
  have hX : Ok X cX8_countOf RX8 "countOf" { frames := 0, cells := 0, slots := 0, locals := 0 } (some .int) := hX0
  have hN2 : 2 < xn X := by rw [hnl]; decide
  have hN3 : 3 < xn X := by rw [hnl]; decide
  have hW24 := hV.2.2.1
  show At X L σ 0 0 [(0, .ref (L.1 (b + 4))), (1, .int (nI x))] 0 []
  refine r_iconst hX (nI 0) dX8_countOf_0 rfl ?_
  refine r_istore_n hX [(0, .ref (L.1 (b + 4))), (1, .int (nI x)), (2, .int (nI 0))] dX8_countOf_1 hN2 rfl ?_
  refine r_iconst hX (nI 0) dX8_countOf_2 rfl ?_
  refine r_istore_n hX [(0, .ref (L.1 (b + 4))), (1, .int (nI x)), (2, .int (nI 0)), (3, .int (nI 0))] dX8_countOf_3 hN3 rfl ?_
  have P1 : ∀ k, k ≤ aW A → At X L σ 0 0 [(0, .ref (L.1 (b + 4))), (1, .int (nI x)), (2, .int (nI (cw A 1 x k))), (3, .int (nI k))] 4 [] := by
    refine loopUp (aW A) ?_ ?_
    · skip
      refine r_iload_n hX dX8_countOf_4 rfl ?_
      refine r_aload_n hX dX8_countOf_5 rfl ?_
      refine r_getIV hX dX8_countOf_6 fl_X8_9 (hC.1 4 (7, 0) rfl) rfl (nI (aW A)) hW.1 ?_
      refine r_icmpN_ge hX dX8_countOf_9 (by omega) (by omega) (fun c2 => ?_) (fun c2 => absurd c2 (by omega))
      refine r_iload_n hX dX8_countOf_31 rfl ?_
      exact r_ireturn hX hQ dX8_countOf_32 ⟨Nat.le_of_ble_eq_true rfl, Nat.le_of_ble_eq_true rfl⟩ (PF.mk rfl)
    · skip
      intro k hk ih3
      have hb := va_sm hV hk (f := 1) (by decide)
      refine r_iload_n hX dX8_countOf_4 rfl ?_
      refine r_aload_n hX dX8_countOf_5 rfl ?_
      refine r_getIV hX dX8_countOf_6 fl_X8_9 (hC.1 4 (7, 0) rfl) rfl (nI (aW A)) hW.1 ?_
      refine r_icmpN_ge hX dX8_countOf_9 (by omega) (by omega) (fun c4 => absurd c4 (by omega)) (fun c4 => ?_)
      refine r_aload_n hX dX8_countOf_12 rfl ?_
      refine r_getR hX dX8_countOf_13 fl_X8_19 (hC.1 4 (7, 0) rfl) rfl (hC.2.1 4 2 10 rfl) ?_
      refine r_iload_n hX dX8_countOf_16 rfl ?_
      refine r_aldN hX dX8_countOf_17 (hC.1 10 (10, 24) rfl) (by decide) (by omega) (nI (aF A k 1)) (hW.2.2.1 k (by omega)) ?_
      refine r_iload_n hX dX8_countOf_18 rfl ?_
      refine r_icmpN_ne hX dX8_countOf_19 (by omega) (by omega) (fun c5 => ?_) (fun c5 => ?_)
      · skip
        refine r_iincN (n := 1) hX [(0, .ref (L.1 (b + 4))), (1, .int (nI x)), (2, .int (nI (cw A 1 x k))), (3, .int (nI (k + 1)))] dX8_countOf_25 rfl hN3 rfl ?_
        refine r_goto hX dX8_countOf_28 ?_
        have q6 : cw A 1 x (k + 1) = cw A 1 x k := (by grind [cw])
        exact At.to ih3 (by rw [q6]) rfl rfl
      · skip
        refine r_iincN (n := 1) hX [(0, .ref (L.1 (b + 4))), (1, .int (nI x)), (2, .int (nI (cw A 1 x k + 1))), (3, .int (nI k))] dX8_countOf_22 rfl hN2 rfl ?_
        refine r_iincN (n := 1) hX [(0, .ref (L.1 (b + 4))), (1, .int (nI x)), (2, .int (nI (cw A 1 x k + 1))), (3, .int (nI (k + 1)))] dX8_countOf_25 rfl hN3 rfl ?_
        refine r_goto hX dX8_countOf_28 ?_
        have q7 : cw A 1 x (k + 1) = cw A 1 x k + 1 := (by grind [cw])
        exact At.to ih3 (by rw [q7]) rfl rfl
  exact At.to (P1 0 (Nat.zero_le _)) rfl rfl rfl

set_option maxHeartbeats 4000000 in
set_option maxRecDepth 100000 in
theorem c_X8_countBy {l : Launch} {D : Ds} {L : La}  (b : Nat) (hC : RAt L b) (σ : Me) (A : Al) (hW : RW σ b A) (hV : Va A) (x : Nat) (hx : x < 2 ^ 31) : Ct l yX8_countBy cX8_countBy 4 (some .int) { frames := 0, cells := 0, slots := 0, locals := 0 } D L σ [.ref (L.1 (b + 4)), .int (nI x)] (PF L σ (nI (cw A 2 x (aW A)))) := by
  refine Ct.of (by decide) (Nat.le_of_ble_eq_true rfl) ?_
  intro X hl hD hnl hX0 hQ
  have hX : Ok X cX8_countBy RX8 "countBy" { frames := 0, cells := 0, slots := 0, locals := 0 } (some .int) := hX0
  have hN2 : 2 < xn X := by rw [hnl]; decide
  have hN3 : 3 < xn X := by rw [hnl]; decide
  have hW24 := hV.2.2.1
  show At X L σ 0 0 [(0, .ref (L.1 (b + 4))), (1, .int (nI x))] 0 []
  refine r_iconst hX (nI 0) dX8_countBy_0 rfl ?_
  refine r_istore_n hX [(0, .ref (L.1 (b + 4))), (1, .int (nI x)), (2, .int (nI 0))] dX8_countBy_1 hN2 rfl ?_
  refine r_iconst hX (nI 0) dX8_countBy_2 rfl ?_
  refine r_istore_n hX [(0, .ref (L.1 (b + 4))), (1, .int (nI x)), (2, .int (nI 0)), (3, .int (nI 0))] dX8_countBy_3 hN3 rfl ?_
  have P1 : ∀ k, k ≤ aW A → At X L σ 0 0 [(0, .ref (L.1 (b + 4))), (1, .int (nI x)), (2, .int (nI (cw A 2 x k))), (3, .int (nI k))] 4 [] := by
    refine loopUp (aW A) ?_ ?_
    · skip
      refine r_iload_n hX dX8_countBy_4 rfl ?_
      refine r_aload_n hX dX8_countBy_5 rfl ?_
      refine r_getIV hX dX8_countBy_6 fl_X8_9 (hC.1 4 (7, 0) rfl) rfl (nI (aW A)) hW.1 ?_
      refine r_icmpN_ge hX dX8_countBy_9 (by omega) (by omega) (fun c2 => ?_) (fun c2 => absurd c2 (by omega))
      refine r_iload_n hX dX8_countBy_31 rfl ?_
      exact r_ireturn hX hQ dX8_countBy_32 ⟨Nat.le_of_ble_eq_true rfl, Nat.le_of_ble_eq_true rfl⟩ (PF.mk rfl)
    · skip
      intro k hk ih3
      have hb := va_sm hV hk (f := 2) (by decide)
      refine r_iload_n hX dX8_countBy_4 rfl ?_
      refine r_aload_n hX dX8_countBy_5 rfl ?_
      refine r_getIV hX dX8_countBy_6 fl_X8_9 (hC.1 4 (7, 0) rfl) rfl (nI (aW A)) hW.1 ?_
      refine r_icmpN_ge hX dX8_countBy_9 (by omega) (by omega) (fun c4 => absurd c4 (by omega)) (fun c4 => ?_)
      refine r_aload_n hX dX8_countBy_12 rfl ?_
      refine r_getR hX dX8_countBy_13 fl_X8_22 (hC.1 4 (7, 0) rfl) rfl (hC.2.1 4 3 11 rfl) ?_
      refine r_iload_n hX dX8_countBy_16 rfl ?_
      refine r_aldN hX dX8_countBy_17 (hC.1 11 (10, 24) rfl) (by decide) (by omega) (nI (aF A k 2)) (hW.2.2.2.1 k (by omega)) ?_
      refine r_iload_n hX dX8_countBy_18 rfl ?_
      refine r_icmpN_ne hX dX8_countBy_19 (by omega) (by omega) (fun c5 => ?_) (fun c5 => ?_)
      · skip
        refine r_iincN (n := 1) hX [(0, .ref (L.1 (b + 4))), (1, .int (nI x)), (2, .int (nI (cw A 2 x k))), (3, .int (nI (k + 1)))] dX8_countBy_25 rfl hN3 rfl ?_
        refine r_goto hX dX8_countBy_28 ?_
        have q6 : cw A 2 x (k + 1) = cw A 2 x k := (by grind [cw])
        exact At.to ih3 (by rw [q6]) rfl rfl
      · skip
        refine r_iincN (n := 1) hX [(0, .ref (L.1 (b + 4))), (1, .int (nI x)), (2, .int (nI (cw A 2 x k + 1))), (3, .int (nI k))] dX8_countBy_22 rfl hN2 rfl ?_
        refine r_iincN (n := 1) hX [(0, .ref (L.1 (b + 4))), (1, .int (nI x)), (2, .int (nI (cw A 2 x k + 1))), (3, .int (nI (k + 1)))] dX8_countBy_25 rfl hN3 rfl ?_
        refine r_goto hX dX8_countBy_28 ?_
        have q7 : cw A 2 x (k + 1) = cw A 2 x k + 1 := (by grind [cw])
        exact At.to ih3 (by rw [q7]) rfl rfl
  exact At.to (P1 0 (Nat.zero_le _)) rfl rfl rfl

set_option maxHeartbeats 4000000 in
set_option maxRecDepth 100000 in
theorem c_X8_countTrue {l : Launch} {D : Ds} {L : La}  (ka : Nat) (hK : KS D ka) (b : Nat) (hC : RAt L b) (σ : Me) (A : Al) (hW : RW σ b A) (hV : Va A) : Ct l yX8_countTrue cX8_countTrue 3 (some .int) { frames := 2, cells := 0, slots := 0, locals := 43 } D L σ [.ref (L.1 (b + 4))] (PF L σ (nI (trN A (aW A)))) := by
  refine Ct.of (by decide) (Nat.le_of_ble_eq_true rfl) ?_
  intro X hl hD hnl hX0 hQ
  have hX : Ok X cX8_countTrue RX8 "countTrue" { frames := 2, cells := 0, slots := 0, locals := 43 } (some .int) := hX0
  have hN1 : 1 < xn X := by rw [hnl]; decide
  have hN2 : 2 < xn X := by rw [hnl]; decide
  have hW24 := hV.2.2.1
  show At X L σ 0 0 [(0, .ref (L.1 (b + 4)))] 0 []
  refine r_iconst hX (nI 0) dX8_countTrue_0 rfl ?_
  refine r_istore_n hX [(0, .ref (L.1 (b + 4))), (1, .int (nI 0))] dX8_countTrue_1 hN1 rfl ?_
  refine r_iconst hX (nI 0) dX8_countTrue_2 rfl ?_
  refine r_istore_n hX [(0, .ref (L.1 (b + 4))), (1, .int (nI 0)), (2, .int (nI 0))] dX8_countTrue_3 hN2 rfl ?_
  have P1 : ∀ k, k ≤ aW A → At X L σ 0 0 [(0, .ref (L.1 (b + 4))), (1, .int (nI (trN A k))), (2, .int (nI k))] 4 [] := by
    refine loopUp (aW A) ?_ ?_
    · skip
      refine r_iload_n hX dX8_countTrue_4 rfl ?_
      refine r_aload_n hX dX8_countTrue_5 rfl ?_
      refine r_getIV hX dX8_countTrue_6 fl_X8_9 (hC.1 4 (7, 0) rfl) rfl (nI (aW A)) hW.1 ?_
      refine r_icmpN_ge hX dX8_countTrue_9 (by omega) (by omega) (fun c2 => ?_) (fun c2 => absurd c2 (by omega))
      refine r_iload_n hX dX8_countTrue_33 rfl ?_
      exact r_ireturn hX hQ dX8_countTrue_34 ⟨Nat.le_of_ble_eq_true rfl, Nat.le_of_ble_eq_true rfl⟩ (PF.mk rfl)
    · skip
      intro k hk ih3
      have hb := (hV.2.2.2.2.2.2.1 k hk).1
      refine r_iload_n hX dX8_countTrue_4 rfl ?_
      refine r_aload_n hX dX8_countTrue_5 rfl ?_
      refine r_getIV hX dX8_countTrue_6 fl_X8_9 (hC.1 4 (7, 0) rfl) rfl (nI (aW A)) hW.1 ?_
      refine r_icmpN_ge hX dX8_countTrue_9 (by omega) (by omega) (fun c4 => absurd c4 (by omega)) (fun c4 => ?_)
      refine r_aload_n hX dX8_countTrue_12 rfl ?_
      refine r_getR hX dX8_countTrue_13 fl_X8_15 (hC.1 4 (7, 0) rfl) rfl (hC.2.1 4 1 9 rfl) ?_
      refine r_iload_n hX dX8_countTrue_16 rfl ?_
      refine r_aldN hX dX8_countTrue_17 (hC.1 9 (10, 24) rfl) (by decide) (by omega) (nI (aF A k 0)) (hW.2.1 k (by omega)) ?_
      refine r_callSF (As := [.int (nI (aF A k 0))]) (rest := []) hX (by rw [hl, hD]; exact c_X1_isTrue ka hK σ (aF A k 0) (by omega)) dX8_countTrue_18 cb_X8_48 rfl rfl ⟨Nat.le_of_ble_eq_true rfl, Nat.le_of_ble_eq_true rfl⟩ ⟨Nat.le_of_ble_eq_true rfl, Nat.le_of_ble_eq_true rfl⟩ (Nat.le_of_ble_eq_true rfl) ?_
      refine r_ifB_eq hX dX8_countTrue_21 (fun c5 => ?_) (fun c5 => ?_)
      · skip
        refine r_iincN (n := 1) hX [(0, .ref (L.1 (b + 4))), (1, .int (nI (trN A k))), (2, .int (nI (k + 1)))] dX8_countTrue_27 rfl hN2 rfl ?_
        refine r_goto hX dX8_countTrue_30 ?_
        have q6 : trN A (k + 1) = trN A k := (by rw [trN, if_neg (by rw [c5]; decide)]; try rfl)
        exact At.to ih3 (by rw [q6]) rfl rfl
      · skip
        refine r_iincN (n := 1) hX [(0, .ref (L.1 (b + 4))), (1, .int (nI (trN A k + 1))), (2, .int (nI k))] dX8_countTrue_24 rfl hN1 rfl ?_
        refine r_iincN (n := 1) hX [(0, .ref (L.1 (b + 4))), (1, .int (nI (trN A k + 1))), (2, .int (nI (k + 1)))] dX8_countTrue_27 rfl hN2 rfl ?_
        refine r_goto hX dX8_countTrue_30 ?_
        have q7 : trN A (k + 1) = trN A k + 1 := (by rw [trN, if_pos c5]; try rfl)
        exact At.to ih3 (by rw [q7]) rfl rfl
  exact At.to (P1 0 (Nat.zero_le _)) rfl rfl rfl

set_option maxHeartbeats 4000000 in
set_option maxRecDepth 100000 in
theorem c_X8_firstHourBy {l : Launch} {D : Ds} {L : La}  (b : Nat) (hC : RAt L b) (σ : Me) (A : Al) (hW : RW σ b A) (hV : Va A) (n : Nat) (hn : n < 2 ^ 31) : Ct l yX8_firstHourBy cX8_firstHourBy 4 (some .int) { frames := 0, cells := 0, slots := 0, locals := 0 } D L σ [.ref (L.1 (b + 4)), .int (nI n)] (PF L σ (nI? (fh A n (aW A)))) := by
  refine Ct.of (by decide) (Nat.le_of_ble_eq_true rfl) ?_
  intro X hl hD hnl hX0 hQ
  have hX : Ok X cX8_firstHourBy RX8 "firstHourBy" { frames := 0, cells := 0, slots := 0, locals := 0 } (some .int) := hX0
  have hN2 : 2 < xn X := by rw [hnl]; decide
  have hN3 : 3 < xn X := by rw [hnl]; decide
  have hW24 := hV.2.2.1
  show At X L σ 0 0 [(0, .ref (L.1 (b + 4))), (1, .int (nI n))] 0 []
  refine r_ldc hX dX8_firstHourBy_0 ko_X8_52 ?_
  refine r_istore_n hX [(0, .ref (L.1 (b + 4))), (1, .int (nI n)), (2, .int (-1000000005))] dX8_firstHourBy_2 hN2 rfl ?_
  refine r_iconst hX (nI 0) dX8_firstHourBy_3 rfl ?_
  refine r_istore_n hX [(0, .ref (L.1 (b + 4))), (1, .int (nI n)), (2, .int (-1000000005)), (3, .int (nI 0))] dX8_firstHourBy_4 hN3 rfl ?_
  have P1 : ∀ k, k ≤ aW A → At X L σ 0 0 [(0, .ref (L.1 (b + 4))), (1, .int (nI n)), (2, .int (nI? (fh A n k))), (3, .int (nI k))] 5 [] := by
    refine loopUp (aW A) ?_ ?_
    · skip
      refine r_iload_n hX dX8_firstHourBy_5 rfl ?_
      refine r_aload_n hX dX8_firstHourBy_6 rfl ?_
      refine r_getIV hX dX8_firstHourBy_7 fl_X8_9 (hC.1 4 (7, 0) rfl) rfl (nI (aW A)) hW.1 ?_
      refine r_icmpN_ge hX dX8_firstHourBy_10 (by omega) (by omega) (fun c2 => ?_) (fun c2 => absurd c2 (by omega))
      refine r_iload_n hX dX8_firstHourBy_52 rfl ?_
      exact r_ireturn hX hQ dX8_firstHourBy_53 ⟨Nat.le_of_ble_eq_true rfl, Nat.le_of_ble_eq_true rfl⟩ (PF.mk rfl)
    · skip
      intro k hk ih3
      have hwf := hV.2.2.2.2.2.2.1 k hk
      have hN12 := hV.2.1
      refine r_iload_n hX dX8_firstHourBy_5 rfl ?_
      refine r_aload_n hX dX8_firstHourBy_6 rfl ?_
      refine r_getIV hX dX8_firstHourBy_7 fl_X8_9 (hC.1 4 (7, 0) rfl) rfl (nI (aW A)) hW.1 ?_
      refine r_icmpN_ge hX dX8_firstHourBy_10 (by omega) (by omega) (fun c4 => absurd c4 (by omega)) (fun c4 => ?_)
      rcases hfh : fh A n k with _ | y
      · skip
        show At X L σ 0 0 [(0, .ref (L.1 (b + 4))), (1, .int (nI n)), (2, .int (-1000000005)), (3, .int (nI k))] 13 []
        skip
        refine r_aload_n hX dX8_firstHourBy_13 rfl ?_
        refine r_getR hX dX8_firstHourBy_14 fl_X8_22 (hC.1 4 (7, 0) rfl) rfl (hC.2.1 4 3 11 rfl) ?_
        refine r_iload_n hX dX8_firstHourBy_17 rfl ?_
        refine r_aldN hX dX8_firstHourBy_18 (hC.1 11 (10, 24) rfl) (by decide) (by omega) (nI (aF A k 2)) (hW.2.2.2.1 k (by omega)) ?_
        refine r_iload_n hX dX8_firstHourBy_19 rfl ?_
        refine r_icmpN_ne hX dX8_firstHourBy_20 (by omega) (by omega) (fun c5 => ?_) (fun c5 => ?_)
        · skip
          refine r_iincN (n := 1) hX [(0, .ref (L.1 (b + 4))), (1, .int (nI n)), (2, .int (-1000000005)), (3, .int (nI (k + 1)))] dX8_firstHourBy_46 rfl hN3 rfl ?_
          refine r_goto hX dX8_firstHourBy_49 ?_
          have q6 : (nI? (fh A n (k + 1))) = (-1000000005) := (by rw [fh_n1 c5, hfh]; rfl)
          exact At.to ih3 (by rw [q6]) rfl rfl
        · skip
          refine r_iload_n hX dX8_firstHourBy_23 rfl ?_
          refine r_ldc hX dX8_firstHourBy_24 ko_X8_52 ?_
          refine r_icmp_eq hX dX8_firstHourBy_26 (fun c7 => ?_) (fun c7 => absurd rfl c7)
          refine r_aload_n hX dX8_firstHourBy_39 rfl ?_
          refine r_getR hX dX8_firstHourBy_40 fl_X8_25 (hC.1 4 (7, 0) rfl) rfl (hC.2.1 4 4 12 rfl) ?_
          refine r_iload_n hX dX8_firstHourBy_43 rfl ?_
          refine r_aldN hX dX8_firstHourBy_44 (hC.1 12 (10, 24) rfl) (by decide) (by omega) (nI (aF A k 3)) (hW.2.2.2.2.1 k (by omega)) ?_
          refine r_istore_n hX [(0, .ref (L.1 (b + 4))), (1, .int (nI n)), (2, .int (nI (aF A k 3))), (3, .int (nI k))] dX8_firstHourBy_45 hN2 rfl ?_
          refine r_iincN (n := 1) hX [(0, .ref (L.1 (b + 4))), (1, .int (nI n)), (2, .int (nI (aF A k 3))), (3, .int (nI (k + 1)))] dX8_firstHourBy_46 rfl hN3 rfl ?_
          refine r_goto hX dX8_firstHourBy_49 ?_
          have q8 : (nI? (fh A n (k + 1))) = nI (aF A k 3) := (by rw [fh_y c5 (Or.inl hfh)]; rfl)
          exact At.to ih3 (by rw [q8]) rfl rfl
      · skip
        show At X L σ 0 0 [(0, .ref (L.1 (b + 4))), (1, .int (nI n)), (2, .int (nI y)), (3, .int (nI k))] 13 []
        have hy := fh_lt hV n k (by omega) y hfh
        refine r_aload_n hX dX8_firstHourBy_13 rfl ?_
        refine r_getR hX dX8_firstHourBy_14 fl_X8_22 (hC.1 4 (7, 0) rfl) rfl (hC.2.1 4 3 11 rfl) ?_
        refine r_iload_n hX dX8_firstHourBy_17 rfl ?_
        refine r_aldN hX dX8_firstHourBy_18 (hC.1 11 (10, 24) rfl) (by decide) (by omega) (nI (aF A k 2)) (hW.2.2.2.1 k (by omega)) ?_
        refine r_iload_n hX dX8_firstHourBy_19 rfl ?_
        refine r_icmpN_ne hX dX8_firstHourBy_20 (by omega) (by omega) (fun c9 => ?_) (fun c9 => ?_)
        · skip
          refine r_iincN (n := 1) hX [(0, .ref (L.1 (b + 4))), (1, .int (nI n)), (2, .int (nI y)), (3, .int (nI (k + 1)))] dX8_firstHourBy_46 rfl hN3 rfl ?_
          refine r_goto hX dX8_firstHourBy_49 ?_
          have q10 : (nI? (fh A n (k + 1))) = nI y := (by rw [fh_n1 c9, hfh]; rfl)
          exact At.to ih3 (by rw [q10]) rfl rfl
        · skip
          refine r_iload_n hX dX8_firstHourBy_23 rfl ?_
          refine r_ldc hX dX8_firstHourBy_24 ko_X8_52 ?_
          refine r_icmp_eq hX dX8_firstHourBy_26 (fun c11 => absurd c11 (nneg_ne (by omega) (by decide))) (fun c11 => ?_)
          refine r_aload_n hX dX8_firstHourBy_29 rfl ?_
          refine r_getR hX dX8_firstHourBy_30 fl_X8_25 (hC.1 4 (7, 0) rfl) rfl (hC.2.1 4 4 12 rfl) ?_
          refine r_iload_n hX dX8_firstHourBy_33 rfl ?_
          refine r_aldN hX dX8_firstHourBy_34 (hC.1 12 (10, 24) rfl) (by decide) (by omega) (nI (aF A k 3)) (hW.2.2.2.2.1 k (by omega)) ?_
          refine r_iload_n hX dX8_firstHourBy_35 rfl ?_
          refine r_icmpN_ge hX dX8_firstHourBy_36 (by omega) (by omega) (fun c12 => ?_) (fun c12 => ?_)
          · skip
            refine r_iincN (n := 1) hX [(0, .ref (L.1 (b + 4))), (1, .int (nI n)), (2, .int (nI y)), (3, .int (nI (k + 1)))] dX8_firstHourBy_46 rfl hN3 rfl ?_
            refine r_goto hX dX8_firstHourBy_49 ?_
            have q13 : (nI? (fh A n (k + 1))) = nI y := (by rw [fh_n2 hfh c12, hfh]; rfl)
            exact At.to ih3 (by rw [q13]) rfl rfl
          · skip
            refine r_aload_n hX dX8_firstHourBy_39 rfl ?_
            refine r_getR hX dX8_firstHourBy_40 fl_X8_25 (hC.1 4 (7, 0) rfl) rfl (hC.2.1 4 4 12 rfl) ?_
            refine r_iload_n hX dX8_firstHourBy_43 rfl ?_
            refine r_aldN hX dX8_firstHourBy_44 (hC.1 12 (10, 24) rfl) (by decide) (by omega) (nI (aF A k 3)) (hW.2.2.2.2.1 k (by omega)) ?_
            refine r_istore_n hX [(0, .ref (L.1 (b + 4))), (1, .int (nI n)), (2, .int (nI (aF A k 3))), (3, .int (nI k))] dX8_firstHourBy_45 hN2 rfl ?_
            refine r_iincN (n := 1) hX [(0, .ref (L.1 (b + 4))), (1, .int (nI n)), (2, .int (nI (aF A k 3))), (3, .int (nI (k + 1)))] dX8_firstHourBy_46 rfl hN3 rfl ?_
            refine r_goto hX dX8_firstHourBy_49 ?_
            have q14 : (nI? (fh A n (k + 1))) = nI (aF A k 3) := (by rw [fh_y c9 (Or.inr ⟨y, hfh, c12⟩)]; rfl)
            exact At.to ih3 (by rw [q14]) rfl rfl
  exact At.to (P1 0 (Nat.zero_le _)) rfl rfl rfl

set_option maxHeartbeats 4000000 in
set_option maxRecDepth 100000 in
theorem c_X8_allStarsOf {l : Launch} {D : Ds} {L : La}  (b : Nat) (hC : RAt L b) (σ : Me) (A : Al) (hW : RW σ b A) (hV : Va A) (x : Nat) (hx : x < 2 ^ 31) : Ct l yX8_allStarsOf cX8_allStarsOf 4 (some .int) { frames := 0, cells := 0, slots := 0, locals := 0 } D L σ [.ref (L.1 (b + 4)), .int (nI x)] (PF L σ (nI (ss A 1 x (aW A)))) := by
  refine Ct.of (by decide) (Nat.le_of_ble_eq_true rfl) ?_
  intro X hl hD hnl hX0 hQ
  have hX : Ok X cX8_allStarsOf RX8 "allStarsOf" { frames := 0, cells := 0, slots := 0, locals := 0 } (some .int) := hX0
  have hN2 : 2 < xn X := by rw [hnl]; decide
  have hN3 : 3 < xn X := by rw [hnl]; decide
  have hW24 := hV.2.2.1
  show At X L σ 0 0 [(0, .ref (L.1 (b + 4))), (1, .int (nI x))] 0 []
  refine r_iconst hX (nI 0) dX8_allStarsOf_0 rfl ?_
  refine r_istore_n hX [(0, .ref (L.1 (b + 4))), (1, .int (nI x)), (2, .int (nI 0))] dX8_allStarsOf_1 hN2 rfl ?_
  refine r_iconst hX (nI 0) dX8_allStarsOf_2 rfl ?_
  refine r_istore_n hX [(0, .ref (L.1 (b + 4))), (1, .int (nI x)), (2, .int (nI 0)), (3, .int (nI 0))] dX8_allStarsOf_3 hN3 rfl ?_
  have P1 : ∀ k, k ≤ aW A → At X L σ 0 0 [(0, .ref (L.1 (b + 4))), (1, .int (nI x)), (2, .int (nI (ss A 1 x k))), (3, .int (nI k))] 4 [] := by
    refine loopUp (aW A) ?_ ?_
    · skip
      refine r_iload_n hX dX8_allStarsOf_4 rfl ?_
      refine r_aload_n hX dX8_allStarsOf_5 rfl ?_
      refine r_getIV hX dX8_allStarsOf_6 fl_X8_9 (hC.1 4 (7, 0) rfl) rfl (nI (aW A)) hW.1 ?_
      refine r_icmpN_ge hX dX8_allStarsOf_9 (by omega) (by omega) (fun c2 => ?_) (fun c2 => absurd c2 (by omega))
      refine r_iload_n hX dX8_allStarsOf_37 rfl ?_
      exact r_ireturn hX hQ dX8_allStarsOf_38 ⟨Nat.le_of_ble_eq_true rfl, Nat.le_of_ble_eq_true rfl⟩ (PF.mk rfl)
    · skip
      intro k hk ih3
      have hb := va_sm hV hk (f := 1) (by decide)
      refine r_iload_n hX dX8_allStarsOf_4 rfl ?_
      refine r_aload_n hX dX8_allStarsOf_5 rfl ?_
      refine r_getIV hX dX8_allStarsOf_6 fl_X8_9 (hC.1 4 (7, 0) rfl) rfl (nI (aW A)) hW.1 ?_
      refine r_icmpN_ge hX dX8_allStarsOf_9 (by omega) (by omega) (fun c4 => absurd c4 (by omega)) (fun c4 => ?_)
      refine r_aload_n hX dX8_allStarsOf_12 rfl ?_
      refine r_getR hX dX8_allStarsOf_13 fl_X8_19 (hC.1 4 (7, 0) rfl) rfl (hC.2.1 4 2 10 rfl) ?_
      refine r_iload_n hX dX8_allStarsOf_16 rfl ?_
      refine r_aldN hX dX8_allStarsOf_17 (hC.1 10 (10, 24) rfl) (by decide) (by omega) (nI (aF A k 1)) (hW.2.2.1 k (by omega)) ?_
      refine r_iload_n hX dX8_allStarsOf_18 rfl ?_
      refine r_icmpN_ne hX dX8_allStarsOf_19 (by omega) (by omega) (fun c5 => ?_) (fun c5 => ?_)
      · skip
        refine r_iincN (n := 1) hX [(0, .ref (L.1 (b + 4))), (1, .int (nI x)), (2, .int (nI (ss A 1 x k))), (3, .int (nI (k + 1)))] dX8_allStarsOf_31 rfl hN3 rfl ?_
        refine r_goto hX dX8_allStarsOf_34 ?_
        have q6 : ss A 1 x (k + 1) = ss A 1 x k := (by rw [ss, if_neg c5]; try rfl)
        exact At.to ih3 (by rw [q6]) rfl rfl
      · skip
        refine r_iload_n hX dX8_allStarsOf_22 rfl ?_
        refine r_aload_n hX dX8_allStarsOf_23 rfl ?_
        refine r_getR hX dX8_allStarsOf_24 fl_X8_28 (hC.1 4 (7, 0) rfl) rfl (hC.2.1 4 5 13 rfl) ?_
        refine r_iload_n hX dX8_allStarsOf_27 rfl ?_
        refine r_aldN hX dX8_allStarsOf_28 (hC.1 13 (10, 24) rfl) (by decide) (by omega) (nI (aF A k 4)) (hW.2.2.2.2.2 k (by omega)) ?_
        refine r_iaddN hX dX8_allStarsOf_29 ?_
        refine r_istore_n hX [(0, .ref (L.1 (b + 4))), (1, .int (nI x)), (2, .int (nI (ss A 1 x k + (aF A k 4)))), (3, .int (nI k))] dX8_allStarsOf_30 hN2 rfl ?_
        refine r_iincN (n := 1) hX [(0, .ref (L.1 (b + 4))), (1, .int (nI x)), (2, .int (nI (ss A 1 x k + (aF A k 4)))), (3, .int (nI (k + 1)))] dX8_allStarsOf_31 rfl hN3 rfl ?_
        refine r_goto hX dX8_allStarsOf_34 ?_
        have q7 : ss A 1 x (k + 1) = ss A 1 x k + (aF A k 4) := (by rw [ss, if_pos c5]; try rfl)
        exact At.to ih3 (by rw [q7]) rfl rfl
  exact At.to (P1 0 (Nat.zero_le _)) rfl rfl rfl

set_option maxHeartbeats 4000000 in
set_option maxRecDepth 100000 in
theorem c_X8_meanOf {l : Launch} {D : Ds} {L : La}  (b : Nat) (hC : RAt L b) (σ : Me) (A : Al) (hW : RW σ b A) (hV : Va A) (x : Nat) (hx : x < 2 ^ 31) : Ct l yX8_meanOf cX8_meanOf 3 (some .int) { frames := 1, cells := 0, slots := 0, locals := 23 } D L σ [.ref (L.1 (b + 4)), .int (nI x)] (PF L σ (mnI A x)) := by
  refine Ct.of (by decide) (Nat.le_of_ble_eq_true rfl) ?_
  intro X hl hD hnl hX0 hQ
  have hX : Ok X cX8_meanOf RX8 "meanOf" { frames := 1, cells := 0, slots := 0, locals := 23 } (some .int) := hX0
  have hN2 : 2 < xn X := by rw [hnl]; decide
  have hss := ss_le hV x
  have hcl := cw_le A 1 x (aW A)
  have hW24 := hV.2.2.1
  show At X L σ 0 0 [(0, .ref (L.1 (b + 4))), (1, .int (nI x))] 0 []
  refine r_aload_n hX dX8_meanOf_0 rfl ?_
  refine r_iload_n hX dX8_meanOf_1 rfl ?_
  refine r_callVF (As := [.int (nI x)]) (rest := []) hX (c_X8_countOf b hC σ A hW hV x (by omega)) dX8_meanOf_2 cb_X8_53 (hC.1 4 (7, 0) rfl) rfl rfl ⟨Nat.le_of_ble_eq_true rfl, Nat.le_of_ble_eq_true rfl⟩ ⟨Nat.le_of_ble_eq_true rfl, Nat.le_of_ble_eq_true rfl⟩ (Nat.le_of_ble_eq_true rfl) ?_
  refine r_istore_n hX [(0, .ref (L.1 (b + 4))), (1, .int (nI x)), (2, .int (nI (cw A 1 x (aW A))))] dX8_meanOf_5 hN2 rfl ?_
  refine r_iload_n hX dX8_meanOf_6 rfl ?_
  refine r_ifN_ne hX dX8_meanOf_7 (by omega) (fun c1 => ?_) (fun c1 => ?_)
  · skip
    refine r_bipush hX (nI 100) dX8_meanOf_15 rfl ?_
    refine r_aload_n hX dX8_meanOf_17 rfl ?_
    refine r_iload_n hX dX8_meanOf_18 rfl ?_
    refine r_callVF (As := [.int (nI x)]) (rest := [.int (nI 100)]) hX (c_X8_allStarsOf b hC σ A hW hV x (by omega)) dX8_meanOf_19 cb_X8_57 (hC.1 4 (7, 0) rfl) rfl rfl ⟨Nat.le_of_ble_eq_true rfl, Nat.le_of_ble_eq_true rfl⟩ ⟨Nat.le_of_ble_eq_true rfl, Nat.le_of_ble_eq_true rfl⟩ (Nat.le_of_ble_eq_true rfl) ?_
    refine r_imulN hX dX8_meanOf_22 ?_
    refine r_iload_n hX dX8_meanOf_23 rfl ?_
    refine r_idivN hX dX8_meanOf_24 (by omega) (by omega) (by omega) ?_
    exact r_ireturn hX hQ dX8_meanOf_25 ⟨Nat.le_of_ble_eq_true rfl, Nat.le_of_ble_eq_true rfl⟩ (PF.mk (mnI_1 (by omega)).symm)
  · skip
    refine r_ldc hX dX8_meanOf_10 ko_X8_52 ?_
    refine r_goto hX dX8_meanOf_12 ?_
    exact r_ireturn hX hQ dX8_meanOf_25 ⟨Nat.le_of_ble_eq_true rfl, Nat.le_of_ble_eq_true rfl⟩ (PF.mk (mnI_0 (by omega)).symm)

set_option maxHeartbeats 4000000 in
set_option maxRecDepth 100000 in
theorem c_X8_meanOrZero {l : Launch} {D : Ds} {L : La}  (b : Nat) (hC : RAt L b) (σ : Me) (A : Al) (hW : RW σ b A) (hV : Va A) (x : Nat) (hx : x < 2 ^ 31) : Ct l yX8_meanOrZero cX8_meanOrZero 2 (some .int) { frames := 2, cells := 0, slots := 0, locals := 45 } D L σ [.ref (L.1 (b + 4)), .int (nI x)] (PF L σ (nI (mz A x))) := by
  refine Ct.of (by decide) (Nat.le_of_ble_eq_true rfl) ?_
  intro X hl hD hnl hX0 hQ
  have hX : Ok X cX8_meanOrZero RX8 "meanOrZero" { frames := 2, cells := 0, slots := 0, locals := 45 } (some .int) := hX0
  show At X L σ 0 0 [(0, .ref (L.1 (b + 4))), (1, .int (nI x))] 0 []
  refine r_iconst hX (nI 0) dX8_meanOrZero_0 rfl ?_
  refine r_aload_n hX dX8_meanOrZero_1 rfl ?_
  refine r_iload_n hX dX8_meanOrZero_2 rfl ?_
  refine r_callVF (As := [.int (nI x)]) (rest := [.int (nI 0)]) hX (c_X8_meanOf b hC σ A hW hV x (by omega)) dX8_meanOrZero_3 cb_X8_60 (hC.1 4 (7, 0) rfl) rfl rfl ⟨Nat.le_of_ble_eq_true rfl, Nat.le_of_ble_eq_true rfl⟩ ⟨Nat.le_of_ble_eq_true rfl, Nat.le_of_ble_eq_true rfl⟩ (Nat.le_of_ble_eq_true rfl) ?_
  refine r_max hX dX8_meanOrZero_6 cb_X8_63 ⟨Nat.le_of_ble_eq_true rfl, Nat.le_of_ble_eq_true rfl⟩ ⟨Nat.le_of_ble_eq_true rfl, Nat.le_of_ble_eq_true rfl⟩ (Nat.le_of_ble_eq_true rfl) (nI (mz A x)) (mz_mx hV x) ?_
  exact r_ireturn hX hQ dX8_meanOrZero_9 ⟨Nat.le_of_ble_eq_true rfl, Nat.le_of_ble_eq_true rfl⟩ (PF.mk rfl)

set_option maxHeartbeats 4000000 in
set_option maxRecDepth 100000 in
theorem c_X8_starWorthOf {l : Launch} {D : Ds} {L : La}  (b : Nat) (hC : RAt L b) (σ : Me) (A : Al) (hW : RW σ b A) (hV : Va A) (x : Nat) (hx : x < 2 ^ 31) : Ct l yX8_starWorthOf cX8_starWorthOf 3 (some .int) { frames := 3, cells := 0, slots := 0, locals := 66 } D L σ [.ref (L.1 (b + 4)), .int (nI x)] (PF L σ (swI A x)) := by
  refine Ct.of (by decide) (Nat.le_of_ble_eq_true rfl) ?_
  intro X hl hD hnl hX0 hQ
  have hX : Ok X cX8_starWorthOf RX8 "starWorthOf" { frames := 3, cells := 0, slots := 0, locals := 66 } (some .int) := hX0
  have hN2 : 2 < xn X := by rw [hnl]; decide
  have hss := ss_le hV x
  have hcl := cw_le A 1 x (aW A)
  have hW24 := hV.2.2.1
  show At X L σ 0 0 [(0, .ref (L.1 (b + 4))), (1, .int (nI x))] 0 []
  refine r_bipush hX (nI 100) dX8_starWorthOf_0 rfl ?_
  refine r_aload_n hX dX8_starWorthOf_2 rfl ?_
  refine r_iload_n hX dX8_starWorthOf_3 rfl ?_
  refine r_callVF (As := [.int (nI x)]) (rest := [.int (nI 100)]) hX (c_X8_allStarsOf b hC σ A hW hV x (by omega)) dX8_starWorthOf_4 cb_X8_57 (hC.1 4 (7, 0) rfl) rfl rfl ⟨Nat.le_of_ble_eq_true rfl, Nat.le_of_ble_eq_true rfl⟩ ⟨Nat.le_of_ble_eq_true rfl, Nat.le_of_ble_eq_true rfl⟩ (Nat.le_of_ble_eq_true rfl) ?_
  refine r_iconst hX (nI 5) dX8_starWorthOf_7 rfl ?_
  refine r_iaddN hX dX8_starWorthOf_8 ?_
  refine r_imulN hX dX8_starWorthOf_9 ?_
  refine r_aload_n hX dX8_starWorthOf_10 rfl ?_
  refine r_iload_n hX dX8_starWorthOf_11 rfl ?_
  refine r_callVF (As := [.int (nI x)]) (rest := [.int (nI (100 * (ss A 1 x (aW A) + 5)))]) hX (c_X8_countOf b hC σ A hW hV x (by omega)) dX8_starWorthOf_12 cb_X8_53 (hC.1 4 (7, 0) rfl) rfl rfl ⟨Nat.le_of_ble_eq_true rfl, Nat.le_of_ble_eq_true rfl⟩ ⟨Nat.le_of_ble_eq_true rfl, Nat.le_of_ble_eq_true rfl⟩ (Nat.le_of_ble_eq_true rfl) ?_
  refine r_iconst hX (nI 1) dX8_starWorthOf_15 rfl ?_
  refine r_iaddN hX dX8_starWorthOf_16 ?_
  refine r_idivN hX dX8_starWorthOf_17 (by omega) (by omega) (by omega) ?_
  refine r_istore_n hX [(0, .ref (L.1 (b + 4))), (1, .int (nI x)), (2, .int (nI ((100 * (ss A 1 x (aW A) + 5)) / (cw A 1 x (aW A) + 1))))] dX8_starWorthOf_18 hN2 rfl ?_
  refine r_iload_n hX dX8_starWorthOf_19 rfl ?_
  refine r_aload_n hX dX8_starWorthOf_20 rfl ?_
  refine r_iload_n hX dX8_starWorthOf_21 rfl ?_
  refine r_callVF (As := [.int (nI x)]) (rest := [.int (nI ((100 * (ss A 1 x (aW A) + 5)) / (cw A 1 x (aW A) + 1)))]) hX (c_X8_meanOrZero b hC σ A hW hV x (by omega)) dX8_starWorthOf_22 cb_X8_68 (hC.1 4 (7, 0) rfl) rfl rfl ⟨Nat.le_of_ble_eq_true rfl, Nat.le_of_ble_eq_true rfl⟩ ⟨Nat.le_of_ble_eq_true rfl, Nat.le_of_ble_eq_true rfl⟩ (Nat.le_of_ble_eq_true rfl) ?_
  refine r_isub hX dX8_starWorthOf_25 ?_
  exact r_ireturn hX hQ dX8_starWorthOf_26 ⟨Nat.le_of_ble_eq_true rfl, Nat.le_of_ble_eq_true rfl⟩ (PF.mk (swI_eq hV x))

set_option maxHeartbeats 4000000 in
set_option maxRecDepth 100000 in
theorem c_X8_areAlike {l : Launch} {D : Ds} {L : La}  (b : Nat) (hC : RAt L b) (σ : Me) (A : Al) (hW : RW σ b A) (hV : Va A) (i j w : Nat) (hi : i < aW A) (hj : j < aW A) (hw : w < 2 ^ 31) : Ct l yX8_areAlike cX8_areAlike 4 (some .boolean) { frames := 1, cells := 0, slots := 0, locals := 21 } D L σ [.ref (L.1 (b + 4)), .int (nI i), .int (nI j), .int (nI w)] (PF L σ (bI (arB A i j w))) := by
  refine Ct.of (by decide) (Nat.le_of_ble_eq_true rfl) ?_
  intro X hl hD hnl hX0 hQ
  have hX : Ok X cX8_areAlike RX8 "areAlike" { frames := 1, cells := 0, slots := 0, locals := 21 } (some .boolean) := hX0
  have hW24 := hV.2.2.1
  have hwi := hV.2.2.2.2.2.2.1 i hi
  have hwj := hV.2.2.2.2.2.2.1 j hj
  have hti := hV.1
  show At X L σ 0 0 [(0, .ref (L.1 (b + 4))), (1, .int (nI i)), (2, .int (nI j)), (3, .int (nI w))] 0 []
  refine r_aload_n hX dX8_areAlike_0 rfl ?_
  refine r_getR hX dX8_areAlike_1 fl_X8_19 (hC.1 4 (7, 0) rfl) rfl (hC.2.1 4 2 10 rfl) ?_
  refine r_iload_n hX dX8_areAlike_4 rfl ?_
  refine r_aldN hX dX8_areAlike_5 (hC.1 10 (10, 24) rfl) (by decide) (by omega) (nI (aF A i 1)) (hW.2.2.1 i (by omega)) ?_
  refine r_aload_n hX dX8_areAlike_6 rfl ?_
  refine r_getR hX dX8_areAlike_7 fl_X8_19 (hC.1 4 (7, 0) rfl) rfl (hC.2.1 4 2 10 rfl) ?_
  refine r_iload_n hX dX8_areAlike_10 rfl ?_
  refine r_aldN hX dX8_areAlike_11 (hC.1 10 (10, 24) rfl) (by decide) (by omega) (nI (aF A j 1)) (hW.2.2.1 j (by omega)) ?_
  refine r_icmpN_ne hX dX8_areAlike_12 (by omega) (by omega) (fun c1 => ?_) (fun c1 => ?_)
  · skip
    refine r_iconst hX (nI 0) dX8_areAlike_54 rfl ?_
    exact r_zreturn hX hQ dX8_areAlike_55 ⟨Nat.le_of_ble_eq_true rfl, Nat.le_of_ble_eq_true rfl⟩ rfl (PF.mk (by clear  hQ hX hX0  hl hD hnl; grind [arB, bI]))
  · skip
    refine r_aload_n hX dX8_areAlike_15 rfl ?_
    refine r_getR hX dX8_areAlike_16 fl_X8_28 (hC.1 4 (7, 0) rfl) rfl (hC.2.1 4 5 13 rfl) ?_
    refine r_iload_n hX dX8_areAlike_19 rfl ?_
    refine r_aldN hX dX8_areAlike_20 (hC.1 13 (10, 24) rfl) (by decide) (by omega) (nI (aF A i 4)) (hW.2.2.2.2.2 i (by omega)) ?_
    refine r_aload_n hX dX8_areAlike_21 rfl ?_
    refine r_getR hX dX8_areAlike_22 fl_X8_28 (hC.1 4 (7, 0) rfl) rfl (hC.2.1 4 5 13 rfl) ?_
    refine r_iload_n hX dX8_areAlike_25 rfl ?_
    refine r_aldN hX dX8_areAlike_26 (hC.1 13 (10, 24) rfl) (by decide) (by omega) (nI (aF A j 4)) (hW.2.2.2.2.2 j (by omega)) ?_
    refine r_icmpN_ne hX dX8_areAlike_27 (by omega) (by omega) (fun c2 => ?_) (fun c2 => ?_)
    · skip
      refine r_iconst hX (nI 0) dX8_areAlike_54 rfl ?_
      exact r_zreturn hX hQ dX8_areAlike_55 ⟨Nat.le_of_ble_eq_true rfl, Nat.le_of_ble_eq_true rfl⟩ rfl (PF.mk (by clear  hQ hX hX0  hl hD hnl; grind [arB, bI]))
    · skip
      refine r_aload_n hX dX8_areAlike_30 rfl ?_
      refine r_getR hX dX8_areAlike_31 fl_X8_25 (hC.1 4 (7, 0) rfl) rfl (hC.2.1 4 4 12 rfl) ?_
      refine r_iload_n hX dX8_areAlike_34 rfl ?_
      refine r_aldN hX dX8_areAlike_35 (hC.1 12 (10, 24) rfl) (by decide) (by omega) (nI (aF A i 3)) (hW.2.2.2.2.1 i (by omega)) ?_
      refine r_aload_n hX dX8_areAlike_36 rfl ?_
      refine r_getR hX dX8_areAlike_37 fl_X8_25 (hC.1 4 (7, 0) rfl) rfl (hC.2.1 4 4 12 rfl) ?_
      refine r_iload_n hX dX8_areAlike_40 rfl ?_
      refine r_aldN hX dX8_areAlike_41 (hC.1 12 (10, 24) rfl) (by decide) (by omega) (nI (aF A j 3)) (hW.2.2.2.2.1 j (by omega)) ?_
      refine r_isub hX dX8_areAlike_42 ?_
      refine r_abs hX dX8_areAlike_43 cb_X8_80 ⟨Nat.le_of_ble_eq_true rfl, Nat.le_of_ble_eq_true rfl⟩ ⟨Nat.le_of_ble_eq_true rfl, Nat.le_of_ble_eq_true rfl⟩ (Nat.le_of_ble_eq_true rfl) (nI (apN (aF A i 3) (aF A j 3))) (abs_sub (by omega) (by omega)) ?_
      refine r_iload_n hX dX8_areAlike_46 rfl ?_
      refine r_icmpN_gt hX dX8_areAlike_47 (by first | omega | (unfold apN; split <;> omega)) (by first | omega | (unfold apN; split <;> omega)) (fun c3 => ?_) (fun c3 => ?_)
      · skip
        refine r_iconst hX (nI 0) dX8_areAlike_54 rfl ?_
        exact r_zreturn hX hQ dX8_areAlike_55 ⟨Nat.le_of_ble_eq_true rfl, Nat.le_of_ble_eq_true rfl⟩ rfl (PF.mk (by clear  hQ hX hX0  hl hD hnl; grind [arB, bI]))
      · skip
        refine r_iconst hX (nI 1) dX8_areAlike_50 rfl ?_
        refine r_goto hX dX8_areAlike_51 ?_
        exact r_zreturn hX hQ dX8_areAlike_55 ⟨Nat.le_of_ble_eq_true rfl, Nat.le_of_ble_eq_true rfl⟩ rfl (PF.mk (by clear  hQ hX hX0  hl hD hnl; grind [arB, bI]))

set_option maxHeartbeats 4000000 in
set_option maxRecDepth 100000 in
theorem c_X8_countWithin {l : Launch} {D : Ds} {L : La}  (b : Nat) (hC : RAt L b) (σ : Me) (A : Al) (hW : RW σ b A) (hV : Va A) (f w : Nat) (hf : f ≤ 2000) (hw : w ≤ 2000) : Ct l yX8_countWithin cX8_countWithin 5 (some .int) { frames := 0, cells := 0, slots := 0, locals := 0 } D L σ [.ref (L.1 (b + 4)), .int (nI f), .int (nI w)] (PF L σ (nI (wiN A f w (aW A)))) := by
  refine Ct.of (by decide) (Nat.le_of_ble_eq_true rfl) ?_
  intro X hl hD hnl hX0 hQ
  have hX : Ok X cX8_countWithin RX8 "countWithin" { frames := 0, cells := 0, slots := 0, locals := 0 } (some .int) := hX0
  have hN3 : 3 < xn X := by rw [hnl]; decide
  have hN4 : 4 < xn X := by rw [hnl]; decide
  have hW24 := hV.2.2.1
  show At X L σ 0 0 [(0, .ref (L.1 (b + 4))), (1, .int (nI f)), (2, .int (nI w))] 0 []
  refine r_iconst hX (nI 0) dX8_countWithin_0 rfl ?_
  refine r_istore_n hX [(0, .ref (L.1 (b + 4))), (1, .int (nI f)), (2, .int (nI w)), (3, .int (nI 0))] dX8_countWithin_1 hN3 rfl ?_
  refine r_iconst hX (nI 0) dX8_countWithin_2 rfl ?_
  refine r_istore hX [(0, .ref (L.1 (b + 4))), (1, .int (nI f)), (2, .int (nI w)), (3, .int (nI 0)), (4, .int (nI 0))] dX8_countWithin_3 hN4 rfl ?_
  have P1 : ∀ k, k ≤ aW A → At X L σ 0 0 [(0, .ref (L.1 (b + 4))), (1, .int (nI f)), (2, .int (nI w)), (3, .int (nI (wiN A f w k))), (4, .int (nI k))] 5 [] := by
    refine loopUp (aW A) ?_ ?_
    · skip
      refine r_iload hX dX8_countWithin_5 rfl ?_
      refine r_aload_n hX dX8_countWithin_7 rfl ?_
      refine r_getIV hX dX8_countWithin_8 fl_X8_9 (hC.1 4 (7, 0) rfl) rfl (nI (aW A)) hW.1 ?_
      refine r_icmpN_ge hX dX8_countWithin_11 (by omega) (by omega) (fun c2 => ?_) (fun c2 => absurd c2 (by omega))
      refine r_iload_n hX dX8_countWithin_47 rfl ?_
      exact r_ireturn hX hQ dX8_countWithin_48 ⟨Nat.le_of_ble_eq_true rfl, Nat.le_of_ble_eq_true rfl⟩ (PF.mk rfl)
    · skip
      intro k hk ih3
      have hb := va_sm hV hk (f := 3) (by decide)
      refine r_iload hX dX8_countWithin_5 rfl ?_
      refine r_aload_n hX dX8_countWithin_7 rfl ?_
      refine r_getIV hX dX8_countWithin_8 fl_X8_9 (hC.1 4 (7, 0) rfl) rfl (nI (aW A)) hW.1 ?_
      refine r_icmpN_ge hX dX8_countWithin_11 (by omega) (by omega) (fun c4 => absurd c4 (by omega)) (fun c4 => ?_)
      refine r_aload_n hX dX8_countWithin_14 rfl ?_
      refine r_getR hX dX8_countWithin_15 fl_X8_25 (hC.1 4 (7, 0) rfl) rfl (hC.2.1 4 4 12 rfl) ?_
      refine r_iload hX dX8_countWithin_18 rfl ?_
      refine r_aldN hX dX8_countWithin_20 (hC.1 12 (10, 24) rfl) (by decide) (by omega) (nI (aF A k 3)) (hW.2.2.2.2.1 k (by omega)) ?_
      refine r_iload_n hX dX8_countWithin_21 rfl ?_
      refine r_icmpN_lt hX dX8_countWithin_22 (by omega) (by omega) (fun c5 => ?_) (fun c5 => ?_)
      · skip
        refine r_iincN (n := 1) hX [(0, .ref (L.1 (b + 4))), (1, .int (nI f)), (2, .int (nI w)), (3, .int (nI (wiN A f w k))), (4, .int (nI (k + 1)))] dX8_countWithin_41 rfl hN4 rfl ?_
        refine r_goto hX dX8_countWithin_44 ?_
        have q6 : wiN A f w (k + 1) = wiN A f w k := (by rw [wiN, if_neg (by omega)]; try rfl)
        exact At.to ih3 (by rw [q6]) rfl rfl
      · skip
        refine r_aload_n hX dX8_countWithin_25 rfl ?_
        refine r_getR hX dX8_countWithin_26 fl_X8_25 (hC.1 4 (7, 0) rfl) rfl (hC.2.1 4 4 12 rfl) ?_
        refine r_iload hX dX8_countWithin_29 rfl ?_
        refine r_aldN hX dX8_countWithin_31 (hC.1 12 (10, 24) rfl) (by decide) (by omega) (nI (aF A k 3)) (hW.2.2.2.2.1 k (by omega)) ?_
        refine r_iload_n hX dX8_countWithin_32 rfl ?_
        refine r_iload_n hX dX8_countWithin_33 rfl ?_
        refine r_iaddN hX dX8_countWithin_34 ?_
        refine r_icmpN_ge hX dX8_countWithin_35 (by omega) (by omega) (fun c7 => ?_) (fun c7 => ?_)
        · skip
          refine r_iincN (n := 1) hX [(0, .ref (L.1 (b + 4))), (1, .int (nI f)), (2, .int (nI w)), (3, .int (nI (wiN A f w k))), (4, .int (nI (k + 1)))] dX8_countWithin_41 rfl hN4 rfl ?_
          refine r_goto hX dX8_countWithin_44 ?_
          have q8 : wiN A f w (k + 1) = wiN A f w k := (by rw [wiN, if_neg (by omega)]; try rfl)
          exact At.to ih3 (by rw [q8]) rfl rfl
        · skip
          refine r_iincN (n := 1) hX [(0, .ref (L.1 (b + 4))), (1, .int (nI f)), (2, .int (nI w)), (3, .int (nI (wiN A f w k + 1))), (4, .int (nI k))] dX8_countWithin_38 rfl hN3 rfl ?_
          refine r_iincN (n := 1) hX [(0, .ref (L.1 (b + 4))), (1, .int (nI f)), (2, .int (nI w)), (3, .int (nI (wiN A f w k + 1))), (4, .int (nI (k + 1)))] dX8_countWithin_41 rfl hN4 rfl ?_
          refine r_goto hX dX8_countWithin_44 ?_
          have q9 : wiN A f w (k + 1) = wiN A f w k + 1 := (by rw [wiN, if_pos ⟨c5, c7⟩]; try rfl)
          exact At.to ih3 (by rw [q9]) rfl rfl
  exact At.to (P1 0 (Nat.zero_le _)) rfl rfl rfl
