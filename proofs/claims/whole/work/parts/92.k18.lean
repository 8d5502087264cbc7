set_option maxHeartbeats 4000000 in
set_option maxRecDepth 100000 in
theorem c_J1_canEncode_9a6ad {l : Launch} {D : Ds} {L : La}  (σ : Me) (c : Nat) (hc : c ≤ 255) : Ct l yJ1_canEncode_9a6ad cJ1_canEncode_9a6ad 1 (some .boolean) { frames := 0, cells := 0, slots := 0, locals := 0 } D L σ [.int (nI c)] (PF L σ (nI 1)) := by
  refine Ct.of (by decide) (Nat.le_of_ble_eq_true rfl) ?_
  intro X hl hD hnl hX0 hQ
  have hX : Ok X cJ1_canEncode_9a6ad RJ1 "canEncode" { frames := 0, cells := 0, slots := 0, locals := 0 } (some .boolean) := hX0
  show At X L σ 0 0 [(0, .int (nI c))] 0 []
  refine r_iload_n hX dJ1_canEncode_9a6ad_0 rfl ?_
  refine r_ifN_lt hX dJ1_canEncode_9a6ad_1 (by omega) ?_
  refine r_iload_n hX dJ1_canEncode_9a6ad_4 rfl ?_
  refine r_sipush hX (nI 255) dJ1_canEncode_9a6ad_5 rfl ?_
  refine r_icmpN_gt hX dJ1_canEncode_9a6ad_8 (by omega) (by decide) (fun c1 => absurd c1 (by omega)) (fun c1 => ?_)
  refine r_iconst hX (nI 1) dJ1_canEncode_9a6ad_11 rfl ?_
  refine r_goto hX dJ1_canEncode_9a6ad_12 ?_
  exact r_zreturn hX hQ dJ1_canEncode_9a6ad_16 ⟨Nat.le_of_ble_eq_true rfl, Nat.le_of_ble_eq_true rfl⟩ rfl (PF.mk rfl)

set_option maxHeartbeats 4000000 in
set_option maxRecDepth 100000 in
theorem c_J1_indexOfChar_4cfef {l : Launch} {D : Ds} {L : La}  (σ : Me) {tx : List Nat} {a v : Nat} (hS : SD D tx a v) (c : Nat) (hc : c < 128) : Ct l yJ1_indexOfChar_4cfef cJ1_indexOfChar_4cfef 6 (some .int) { frames := 0, cells := 0, slots := 0, locals := 0 } D L σ [.ref v, .int (nI c), .int (nI 0), .int (nI tx.length)] (PF L σ (ixI tx c)) := by
  refine Ct.of (by decide) (Nat.le_of_ble_eq_true rfl) ?_
  intro X hl hD hnl hX0 hQ
  have hX : Ok X cJ1_indexOfChar_4cfef RJ1 "indexOfChar" { frames := 0, cells := 0, slots := 0, locals := 0 } (some .int) := hX0
  have hN4 : 4 < xn X := by rw [hnl]; decide
  have hN5 : 5 < xn X := by rw [hnl]; decide
  obtain ⟨⟨hZ, hF⟩, hO, hco, hv, hT⟩ := hS.2.2 (xs X) (by rw [← hD]; exact hX.2.2.2.2.2.1.2.2.1)
  rw [← hD] at hZ hF hO hco hv hT
  have htl := hS.1
  show At X L σ 0 0 [(0, .ref v), (1, .int (nI c)), (2, .int (nI 0)), (3, .int (nI tx.length))] 0 []
  refine r_iload_n hX dJ1_indexOfChar_4cfef_0 rfl ?_
  refine r_i2b hX dJ1_indexOfChar_4cfef_1 ?_
  rw [show (nI c).toInt8.toInt32 = nI c from sb_lt hc]
  refine r_istore hX [(0, .ref v), (1, .int (nI c)), (2, .int (nI 0)), (3, .int (nI tx.length)), (4, .int (nI c))] dJ1_indexOfChar_4cfef_2 hN4 rfl ?_
  refine r_iload_n hX dJ1_indexOfChar_4cfef_4 rfl ?_
  refine r_istore hX [(0, .ref v), (1, .int (nI c)), (2, .int (nI 0)), (3, .int (nI tx.length)), (4, .int (nI c)), (5, .int (nI 0))] dJ1_indexOfChar_4cfef_5 hN5 rfl ?_
  have P1 : ∀ k, k ≤ tx.length → ∀ (hpk : pfx (fun i => !(decide (tx.getD i 0 = c))) k = k), At X L σ 0 0 [(0, .ref v), (1, .int (nI c)), (2, .int (nI 0)), (3, .int (nI tx.length)), (4, .int (nI c)), (5, .int (nI k))] 7 [] := by
    refine loopUp tx.length ?_ ?_
    · skip
      intro hpk
      refine r_iload hX dJ1_indexOfChar_4cfef_7 rfl ?_
      refine r_iload_n hX dJ1_indexOfChar_4cfef_9 rfl ?_
      refine r_icmpN_ge hX dJ1_indexOfChar_4cfef_10 (by omega) (by omega) (fun c2 => ?_) (fun c2 => absurd c2 (by omega))
      refine r_iconst hX (-1) dJ1_indexOfChar_4cfef_31 rfl ?_
      exact r_ireturn hX hQ dJ1_indexOfChar_4cfef_32 ⟨Nat.le_of_ble_eq_true rfl, Nat.le_of_ble_eq_true rfl⟩ (PF.mk (by rw [ixI, show fxN tx c = tx.length from hpk, if_neg (by omega)]))
    · skip
      intro k hk ih3 hpk
      refine r_iload hX dJ1_indexOfChar_4cfef_7 rfl ?_
      refine r_iload_n hX dJ1_indexOfChar_4cfef_9 rfl ?_
      refine r_icmpN_ge hX dJ1_indexOfChar_4cfef_10 (by omega) (by omega) (fun c4 => absurd c4 (by omega)) (fun c4 => ?_)
      refine r_aload_n hX dJ1_indexOfChar_4cfef_13 rfl ?_
      refine r_iload hX dJ1_indexOfChar_4cfef_14 rfl ?_
      refine r_baldT hX hT dJ1_indexOfChar_4cfef_16 (by omega) (by omega) ?_
      show At X L σ 0 0 [(0, .ref v), (1, .int (nI c)), (2, .int (nI 0)), (3, .int (nI tx.length)), (4, .int (nI c)), (5, .int (nI k))] 17 [.int (nI (tx.getD k 0))]
      refine r_iload hX dJ1_indexOfChar_4cfef_17 rfl ?_
      refine r_icmpN_ne hX dJ1_indexOfChar_4cfef_19 (by first | omega | (have := hS.2.1 k; omega)) (by first | omega | (have := hS.2.1 k; omega)) (fun c5 => ?_) (fun c5 => ?_)
      · skip
        refine r_iincN (n := 1) hX [(0, .ref v), (1, .int (nI c)), (2, .int (nI 0)), (3, .int (nI tx.length)), (4, .int (nI c)), (5, .int (nI (k + 1)))] dJ1_indexOfChar_4cfef_25 rfl hN5 rfl ?_
        refine r_goto hX dJ1_indexOfChar_4cfef_28 ?_
        exact At.to (ih3 (pfx_s hpk (by rw [decide_eq_false c5]; rfl))) rfl rfl rfl
      · skip
        refine r_iload hX dJ1_indexOfChar_4cfef_22 rfl ?_
        exact r_ireturn hX hQ dJ1_indexOfChar_4cfef_24 ⟨Nat.le_of_ble_eq_true rfl, Nat.le_of_ble_eq_true rfl⟩ (PF.mk (by rw [ixI, show fxN tx c = k from pfx_no hpk (by rw [decide_eq_true c5]; rfl) _ (Nat.le_of_lt hk), if_pos hk]))
  exact At.to (P1 0 (Nat.zero_le _) rfl) rfl rfl rfl

set_option maxHeartbeats 4000000 in
set_option maxRecDepth 100000 in
theorem c_J1_indexOf_4cfef {l : Launch} {D : Ds} {L : La}  (σ : Me) {tx : List Nat} {a v : Nat} (hS : SD D tx a v) (c : Nat) (hc : c < 128) (hl0 : 0 < tx.length) : Ct l yJ1_indexOf_4cfef cJ1_indexOf_4cfef 4 (some .int) { frames := 1, cells := 0, slots := 0, locals := 25 } D L σ [.ref v, .int (nI c), .int (nI 0), .int (nI tx.length)] (PF L σ (ixI tx c)) := by
  refine Ct.of (by decide) (Nat.le_of_ble_eq_true rfl) ?_
  intro X hl hD hnl hX0 hQ
  have hX : Ok X cJ1_indexOf_4cfef RJ1 "indexOf" { frames := 1, cells := 0, slots := 0, locals := 25 } (some .int) := hX0
  have hN2 : 2 < xn X := by rw [hnl]; decide
  have hN3 : 3 < xn X := by rw [hnl]; decide
  obtain ⟨⟨hZ, hF⟩, hO, hco, hv, hT⟩ := hS.2.2 (xs X) (by rw [← hD]; exact hX.2.2.2.2.2.1.2.2.1)
  rw [← hD] at hZ hF hO hco hv hT
  have htl := hS.1
  show At X L σ 0 0 [(0, .ref v), (1, .int (nI c)), (2, .int (nI 0)), (3, .int (nI tx.length))] 0 []
  refine r_iload_n hX dJ1_indexOf_4cfef_0 rfl ?_
  refine r_callSF (As := [.int (nI c)]) (rest := []) hX (c_J1_canEncode_9a6ad σ c (by omega)) dJ1_indexOf_4cfef_1 cb_J1_88 rfl rfl ⟨Nat.le_of_ble_eq_true rfl, Nat.le_of_ble_eq_true rfl⟩ ⟨Nat.le_of_ble_eq_true rfl, Nat.le_of_ble_eq_true rfl⟩ (Nat.le_of_ble_eq_true rfl) ?_
  refine r_ifN_ne hX dJ1_indexOf_4cfef_4 (by decide) (fun c1 => ?_) (fun c1 => absurd c1 (by decide))
  refine r_iload_n hX dJ1_indexOf_4cfef_9 rfl ?_
  refine r_iconst hX (nI 0) dJ1_indexOf_4cfef_10 rfl ?_
  refine r_max hX dJ1_indexOf_4cfef_11 cb_J1_92 ⟨Nat.le_of_ble_eq_true rfl, Nat.le_of_ble_eq_true rfl⟩ ⟨Nat.le_of_ble_eq_true rfl, Nat.le_of_ble_eq_true rfl⟩ (Nat.le_of_ble_eq_true rfl) (nI 0) (by decide) ?_
  refine r_istore_n hX [(0, .ref v), (1, .int (nI c)), (2, .int (nI 0)), (3, .int (nI tx.length))] dJ1_indexOf_4cfef_14 hN2 rfl ?_
  refine r_iload_n hX dJ1_indexOf_4cfef_15 rfl ?_
  refine r_aload_n hX dJ1_indexOf_4cfef_16 rfl ?_
  refine r_alenT hX hT dJ1_indexOf_4cfef_17 ?_
  refine r_min hX dJ1_indexOf_4cfef_18 cb_J1_38 ⟨Nat.le_of_ble_eq_true rfl, Nat.le_of_ble_eq_true rfl⟩ ⟨Nat.le_of_ble_eq_true rfl, Nat.le_of_ble_eq_true rfl⟩ (Nat.le_of_ble_eq_true rfl) (nI tx.length) (by rw [miI_n (by omega) (by omega), Nat.min_self]) ?_
  refine r_istore_n hX [(0, .ref v), (1, .int (nI c)), (2, .int (nI 0)), (3, .int (nI tx.length))] dJ1_indexOf_4cfef_21 hN3 rfl ?_
  refine r_iload_n hX dJ1_indexOf_4cfef_22 rfl ?_
  refine r_iload_n hX dJ1_indexOf_4cfef_23 rfl ?_
  refine r_icmpN_lt hX dJ1_indexOf_4cfef_24 (by decide) (by omega) (fun c2 => ?_) (fun c2 => absurd c2 (by omega))
  refine r_aload_n hX dJ1_indexOf_4cfef_29 rfl ?_
  refine r_iload_n hX dJ1_indexOf_4cfef_30 rfl ?_
  refine r_iload_n hX dJ1_indexOf_4cfef_31 rfl ?_
  refine r_iload_n hX dJ1_indexOf_4cfef_32 rfl ?_
  refine r_callSF (As := [.ref v, .int (nI c), .int (nI 0), .int (nI tx.length)]) (rest := []) hX (by rw [hl, hD]; exact c_J1_indexOfChar_4cfef σ hS c hc) dJ1_indexOf_4cfef_33 cb_J1_95 rfl rfl ⟨Nat.le_of_ble_eq_true rfl, Nat.le_of_ble_eq_true rfl⟩ ⟨Nat.le_of_ble_eq_true rfl, Nat.le_of_ble_eq_true rfl⟩ (Nat.le_of_ble_eq_true rfl) ?_
  exact r_ireturn hX hQ dJ1_indexOf_4cfef_36 ⟨Nat.le_of_ble_eq_true rfl, Nat.le_of_ble_eq_true rfl⟩ (PF.mk rfl)

set_option maxHeartbeats 4000000 in
set_option maxRecDepth 100000 in
theorem c_J0_indexOf_7cf53 {l : Launch} {D : Ds} {L : La}  (σ : Me) {tx : List Nat} {a v : Nat} (hS : SD D tx a v) (c : Nat) (hc : c < 128) (hl0 : 0 < tx.length) : Ct l yJ0_indexOf_7cf53 cJ0_indexOf_7cf53 3 (some .int) { frames := 2, cells := 0, slots := 0, locals := 48 } D L σ [.ref a, .int (nI c), .int (nI 0)] (PF L σ (ixI tx c)) := by
  refine Ct.of (by decide) (Nat.le_of_ble_eq_true rfl) ?_
  intro X hl hD hnl hX0 hQ
  have hX : Ok X cJ0_indexOf_7cf53 RJ0 "indexOf" { frames := 2, cells := 0, slots := 0, locals := 48 } (some .int) := hX0
  obtain ⟨⟨hZ, hF⟩, hO, hco, hv, hT⟩ := hS.2.2 (xs X) (by rw [← hD]; exact hX.2.2.2.2.2.1.2.2.1)
  rw [← hD] at hZ hF hO hco hv hT
  have htl := hS.1
  show At X L σ 0 0 [(0, .ref a), (1, .int (nI c)), (2, .int (nI 0))] 0 []
  refine r_aload_n hX dJ0_indexOf_7cf53_0 rfl ?_
  refine r_callVSt (As := []) (rest := []) hX hO (by rw [hl, hD]; exact c_J0_isLatin1_aae02 σ hS) dJ0_indexOf_7cf53_1 cb_J0_492 rfl rfl ⟨Nat.le_of_ble_eq_true rfl, Nat.le_of_ble_eq_true rfl⟩ ⟨Nat.le_of_ble_eq_true rfl, Nat.le_of_ble_eq_true rfl⟩ (Nat.le_of_ble_eq_true rfl) ?_
  refine r_ifN_eq hX dJ0_indexOf_7cf53_4 (by decide) (fun c1 => absurd c1 (by decide)) (fun c1 => ?_)
  refine r_aload_n hX dJ0_indexOf_7cf53_7 rfl ?_
  refine r_getS hX hv dJ0_indexOf_7cf53_8 (inT_7 (List.mem_of_getElem? (i := 91) rfl) rfl) ?_
  refine r_iload_n hX dJ0_indexOf_7cf53_11 rfl ?_
  refine r_iload_n hX dJ0_indexOf_7cf53_12 rfl ?_
  refine r_aload_n hX dJ0_indexOf_7cf53_13 rfl ?_
  refine r_callVSt (As := []) (rest := [.int (nI 0), .int (nI c), .ref v]) hX hO (by rw [hl, hD]; exact c_J0_length_8abf5 σ hS) dJ0_indexOf_7cf53_14 cb_J0_505 rfl rfl ⟨Nat.le_of_ble_eq_true rfl, Nat.le_of_ble_eq_true rfl⟩ ⟨Nat.le_of_ble_eq_true rfl, Nat.le_of_ble_eq_true rfl⟩ (Nat.le_of_ble_eq_true rfl) ?_
  refine r_callSF (As := [.ref v, .int (nI c), .int (nI 0), .int (nI tx.length)]) (rest := []) hX (by rw [hl, hD]; exact c_J1_indexOf_4cfef σ hS c hc hl0) dJ0_indexOf_7cf53_17 cb_J0_637 rfl rfl ⟨Nat.le_of_ble_eq_true rfl, Nat.le_of_ble_eq_true rfl⟩ ⟨Nat.le_of_ble_eq_true rfl, Nat.le_of_ble_eq_true rfl⟩ (Nat.le_of_ble_eq_true rfl) ?_
  refine r_goto hX dJ0_indexOf_7cf53_20 ?_
  exact r_ireturn hX hQ dJ0_indexOf_7cf53_36 ⟨Nat.le_of_ble_eq_true rfl, Nat.le_of_ble_eq_true rfl⟩ (PF.mk rfl)

set_option maxHeartbeats 4000000 in
set_option maxRecDepth 100000 in
theorem c_J0_indexOf_0f7a4 {l : Launch} {D : Ds} {L : La}  (σ : Me) {tx : List Nat} {a v : Nat} (hS : SD D tx a v) (c : Nat) (hc : c < 128) (hl0 : 0 < tx.length) : Ct l yJ0_indexOf_0f7a4 cJ0_indexOf_0f7a4 2 (some .int) { frames := 3, cells := 0, slots := 0, locals := 70 } D L σ [.ref a, .int (nI c)] (PF L σ (ixI tx c)) := by
  refine Ct.of (by decide) (Nat.le_of_ble_eq_true rfl) ?_
  intro X hl hD hnl hX0 hQ
  have hX : Ok X cJ0_indexOf_0f7a4 RJ0 "indexOf" { frames := 3, cells := 0, slots := 0, locals := 70 } (some .int) := hX0
  obtain ⟨⟨hZ, hF⟩, hO, hco, hv, hT⟩ := hS.2.2 (xs X) (by rw [← hD]; exact hX.2.2.2.2.2.1.2.2.1)
  rw [← hD] at hZ hF hO hco hv hT
  have htl := hS.1
  show At X L σ 0 0 [(0, .ref a), (1, .int (nI c))] 0 []
  refine r_aload_n hX dJ0_indexOf_0f7a4_0 rfl ?_
  refine r_iload_n hX dJ0_indexOf_0f7a4_1 rfl ?_
  refine r_iconst hX (nI 0) dJ0_indexOf_0f7a4_2 rfl ?_
  refine r_callVSt (As := [.int (nI c), .int (nI 0)]) (rest := []) hX hO (by rw [hl, hD]; exact c_J0_indexOf_7cf53 σ hS c hc hl0) dJ0_indexOf_0f7a4_3 cb_J0_633 rfl rfl ⟨Nat.le_of_ble_eq_true rfl, Nat.le_of_ble_eq_true rfl⟩ ⟨Nat.le_of_ble_eq_true rfl, Nat.le_of_ble_eq_true rfl⟩ (Nat.le_of_ble_eq_true rfl) ?_
  exact r_ireturn hX hQ dJ0_indexOf_0f7a4_6 ⟨Nat.le_of_ble_eq_true rfl, Nat.le_of_ble_eq_true rfl⟩ (PF.mk rfl)
