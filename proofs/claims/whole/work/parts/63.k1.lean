set_option maxHeartbeats 4000000 in
set_option maxRecDepth 100000 in
theorem c_J6_bitCount_0f7a4 {l : Launch} {D : Ds} {L : La}  (σ : Me) (q : Nat) (hq : q < 4096) : Ct l yJ6_bitCount_0f7a4 cJ6_bitCount_0f7a4 1 (some .int) { frames := 0, cells := 0, slots := 0, locals := 0 } D L σ [.int (nI q)] (PF L σ (nI (pc12 q))) := by
  refine Ct.of (by decide) (Nat.le_of_ble_eq_true rfl) ?_
  intro X hl hD hnl hX0 hQ
  have hX : Ok X cJ6_bitCount_0f7a4 RJ6 "bitCount" { frames := 0, cells := 0, slots := 0, locals := 0 } (some .int) := hX0
  have hN0 : 0 < xn X := by rw [hnl]; decide
  show At X L σ 0 0 [(0, .int (nI q))] 0 []
  refine r_iload_n hX dJ6_bitCount_0f7a4_0 rfl ?_
  refine r_iload_n hX dJ6_bitCount_0f7a4_1 rfl ?_
  refine r_iconst hX (nI 1) dJ6_bitCount_0f7a4_2 rfl ?_
  refine r_iushr hX dJ6_bitCount_0f7a4_3 ?_
  refine r_ldcw hX dJ6_bitCount_0f7a4_4 ko_J6_265 ?_
  refine r_iand hX dJ6_bitCount_0f7a4_7 ?_
  refine r_isub hX dJ6_bitCount_0f7a4_8 ?_
  refine r_istore_n hX [(0, .int ((nI q) - ((ushr (nI q) (nI 1)) &&& 1431655765)))] dJ6_bitCount_0f7a4_9 hN0 rfl ?_
  refine r_iload_n hX dJ6_bitCount_0f7a4_10 rfl ?_
  refine r_ldcw hX dJ6_bitCount_0f7a4_11 ko_J6_266 ?_
  refine r_iand hX dJ6_bitCount_0f7a4_14 ?_
  refine r_iload_n hX dJ6_bitCount_0f7a4_15 rfl ?_
  refine r_iconst hX (nI 2) dJ6_bitCount_0f7a4_16 rfl ?_
  refine r_iushr hX dJ6_bitCount_0f7a4_17 ?_
  refine r_ldcw hX dJ6_bitCount_0f7a4_18 ko_J6_266 ?_
  refine r_iand hX dJ6_bitCount_0f7a4_21 ?_
  refine r_iadd hX dJ6_bitCount_0f7a4_22 ?_
  refine r_istore_n hX [(0, .int ((((nI q) - ((ushr (nI q) (nI 1)) &&& 1431655765)) &&& 858993459) + ((ushr ((nI q) - ((ushr (nI q) (nI 1)) &&& 1431655765)) (nI 2)) &&& 858993459)))] dJ6_bitCount_0f7a4_23 hN0 rfl ?_
  refine r_iload_n hX dJ6_bitCount_0f7a4_24 rfl ?_
  refine r_iload_n hX dJ6_bitCount_0f7a4_25 rfl ?_
  refine r_iconst hX (nI 4) dJ6_bitCount_0f7a4_26 rfl ?_
  refine r_iushr hX dJ6_bitCount_0f7a4_27 ?_
  refine r_iadd hX dJ6_bitCount_0f7a4_28 ?_
  refine r_ldcw hX dJ6_bitCount_0f7a4_29 ko_J6_267 ?_
  refine r_iand hX dJ6_bitCount_0f7a4_32 ?_
  refine r_istore_n hX [(0, .int ((((((nI q) - ((ushr (nI q) (nI 1)) &&& 1431655765)) &&& 858993459) + ((ushr ((nI q) - ((ushr (nI q) (nI 1)) &&& 1431655765)) (nI 2)) &&& 858993459)) + (ushr ((((nI q) - ((ushr (nI q) (nI 1)) &&& 1431655765)) &&& 858993459) + ((ushr ((nI q) - ((ushr (nI q) (nI 1)) &&& 1431655765)) (nI 2)) &&& 858993459)) (nI 4))) &&& 252645135))] dJ6_bitCount_0f7a4_33 hN0 rfl ?_
  refine r_iload_n hX dJ6_bitCount_0f7a4_34 rfl ?_
  refine r_iload_n hX dJ6_bitCount_0f7a4_35 rfl ?_
  refine r_bipush hX (nI 8) dJ6_bitCount_0f7a4_36 rfl ?_
  refine r_iushr hX dJ6_bitCount_0f7a4_38 ?_
  refine r_iadd hX dJ6_bitCount_0f7a4_39 ?_
  refine r_istore_n hX [(0, .int (((((((nI q) - ((ushr (nI q) (nI 1)) &&& 1431655765)) &&& 858993459) + ((ushr ((nI q) - ((ushr (nI q) (nI 1)) &&& 1431655765)) (nI 2)) &&& 858993459)) + (ushr ((((nI q) - ((ushr (nI q) (nI 1)) &&& 1431655765)) &&& 858993459) + ((ushr ((nI q) - ((ushr (nI q) (nI 1)) &&& 1431655765)) (nI 2)) &&& 858993459)) (nI 4))) &&& 252645135) + (ushr ((((((nI q) - ((ushr (nI q) (nI 1)) &&& 1431655765)) &&& 858993459) + ((ushr ((nI q) - ((ushr (nI q) (nI 1)) &&& 1431655765)) (nI 2)) &&& 858993459)) + (ushr ((((nI q) - ((ushr (nI q) (nI 1)) &&& 1431655765)) &&& 858993459) + ((ushr ((nI q) - ((ushr (nI q) (nI 1)) &&& 1431655765)) (nI 2)) &&& 858993459)) (nI 4))) &&& 252645135) (nI 8))))] dJ6_bitCount_0f7a4_40 hN0 rfl ?_
  refine r_iload_n hX dJ6_bitCount_0f7a4_41 rfl ?_
  refine r_iload_n hX dJ6_bitCount_0f7a4_42 rfl ?_
  refine r_bipush hX (nI 16) dJ6_bitCount_0f7a4_43 rfl ?_
  refine r_iushr hX dJ6_bitCount_0f7a4_45 ?_
  refine r_iadd hX dJ6_bitCount_0f7a4_46 ?_
  refine r_istore_n hX [(0, .int ((((((((nI q) - ((ushr (nI q) (nI 1)) &&& 1431655765)) &&& 858993459) + ((ushr ((nI q) - ((ushr (nI q) (nI 1)) &&& 1431655765)) (nI 2)) &&& 858993459)) + (ushr ((((nI q) - ((ushr (nI q) (nI 1)) &&& 1431655765)) &&& 858993459) + ((ushr ((nI q) - ((ushr (nI q) (nI 1)) &&& 1431655765)) (nI 2)) &&& 858993459)) (nI 4))) &&& 252645135) + (ushr ((((((nI q) - ((ushr (nI q) (nI 1)) &&& 1431655765)) &&& 858993459) + ((ushr ((nI q) - ((ushr (nI q) (nI 1)) &&& 1431655765)) (nI 2)) &&& 858993459)) + (ushr ((((nI q) - ((ushr (nI q) (nI 1)) &&& 1431655765)) &&& 858993459) + ((ushr ((nI q) - ((ushr (nI q) (nI 1)) &&& 1431655765)) (nI 2)) &&& 858993459)) (nI 4))) &&& 252645135) (nI 8))) + (ushr (((((((nI q) - ((ushr (nI q) (nI 1)) &&& 1431655765)) &&& 858993459) + ((ushr ((nI q) - ((ushr (nI q) (nI 1)) &&& 1431655765)) (nI 2)) &&& 858993459)) + (ushr ((((nI q) - ((ushr (nI q) (nI 1)) &&& 1431655765)) &&& 858993459) + ((ushr ((nI q) - ((ushr (nI q) (nI 1)) &&& 1431655765)) (nI 2)) &&& 858993459)) (nI 4))) &&& 252645135) + (ushr ((((((nI q) - ((ushr (nI q) (nI 1)) &&& 1431655765)) &&& 858993459) + ((ushr ((nI q) - ((ushr (nI q) (nI 1)) &&& 1431655765)) (nI 2)) &&& 858993459)) + (ushr ((((nI q) - ((ushr (nI q) (nI 1)) &&& 1431655765)) &&& 858993459) + ((ushr ((nI q) - ((ushr (nI q) (nI 1)) &&& 1431655765)) (nI 2)) &&& 858993459)) (nI 4))) &&& 252645135) (nI 8))) (nI 16))))] dJ6_bitCount_0f7a4_47 hN0 rfl ?_
  refine r_iload_n hX dJ6_bitCount_0f7a4_48 rfl ?_
  refine r_bipush hX (nI 63) dJ6_bitCount_0f7a4_49 rfl ?_
  refine r_iand hX dJ6_bitCount_0f7a4_51 ?_
  exact r_ireturn hX hQ dJ6_bitCount_0f7a4_52 ⟨Nat.le_of_ble_eq_true rfl, Nat.le_of_ble_eq_true rfl⟩ (PF.mk ((show _ = bcI (nI q) from rfl).trans (bcI_n q hq)))

set_option maxHeartbeats 4000000 in
set_option maxRecDepth 100000 in
theorem c_X1_isUnder {l : Launch} {D : Ds} {L : La}  (ka : Nat) (hK : KS D ka) (σ : Me) (k a : Nat) (hk : k ≤ 5) (ha : a ≤ 5) : Ct l yX1_isUnder cX1_isUnder 4 (some .boolean) { frames := 0, cells := 0, slots := 0, locals := 0 } D L σ [.int (nI k), .int (nI a)] (PF L σ (bI (undB k a))) := by
  refine Ct.of (by decide) (Nat.le_of_ble_eq_true rfl) ?_
  intro X hl hD hnl hX0 hQ
  have hX : Ok X cX1_isUnder RX1 "isUnder" { frames := 0, cells := 0, slots := 0, locals := 0 } (some .boolean) := hX0
  have hN2 : 2 < xn X := by rw [hnl]; decide
  have hN3 : 3 < xn X := by rw [hnl]; decide
  obtain ⟨hZ, hT⟩ := hK (xs X) (by rw [← hD]; exact hX.2.2.2.2.2.1.2.2.1)
  rw [← hD] at hZ hT
  show At X L σ 0 0 [(0, .int (nI k)), (1, .int (nI a))] 0 []
  rcases (show k = 0 ∨ k = 1 ∨ k = 2 ∨ k = 3 ∨ k = 4 ∨ k = 5 from (by omega)) with rfl | rfl | rfl | rfl | rfl | rfl
  · skip
    refine r_iload_n hX dX1_isUnder_0 rfl ?_
    refine r_istore_n hX [(0, .int (nI 0)), (1, .int (nI a)), (2, .int (nI 0))] dX1_isUnder_1 hN2 rfl ?_
    refine r_iconst hX (nI 0) dX1_isUnder_2 rfl ?_
    refine r_istore_n hX [(0, .int (nI 0)), (1, .int (nI a)), (2, .int (nI 0)), (3, .int (nI 0))] dX1_isUnder_3 hN3 rfl ?_
    refine r_iload_n hX dX1_isUnder_4 rfl ?_
    refine r_getst hX hZ dX1_isUnder_5 (inT_2 (List.mem_of_getElem? (i := 184) rfl) rfl) ?_
    refine r_alenT hX hT dX1_isUnder_8 ?_
    refine r_icmpN_ge hX dX1_isUnder_9 (by decide) (by decide) (fun c1 => absurd c1 (by decide)) (fun c1 => ?_)
    refine r_iload_n hX dX1_isUnder_12 rfl ?_
    refine r_ifN_lt hX dX1_isUnder_13 (by decide) ?_
    refine r_iload_n hX dX1_isUnder_16 rfl ?_
    refine r_iload_n hX dX1_isUnder_17 rfl ?_
    refine r_icmpN_ne hX dX1_isUnder_18 (by decide) (by omega) (fun c2 => ?_) (fun c2 => ?_)
    · skip
      refine r_getst hX hZ dX1_isUnder_23 (inT_2 (List.mem_of_getElem? (i := 184) rfl) rfl) ?_
      refine r_iload_n hX dX1_isUnder_26 rfl ?_
      refine r_ialdT hX hT dX1_isUnder_27 (by decide) (by decide) (-1) rfl ?_
      refine r_istore_n hX [(0, .int (nI 0)), (1, .int (nI a)), (2, .int (-1)), (3, .int (nI 0))] dX1_isUnder_28 hN2 rfl ?_
      refine r_iincN (n := 1) hX [(0, .int (nI 0)), (1, .int (nI a)), (2, .int (-1)), (3, .int (nI 1))] dX1_isUnder_29 rfl hN3 rfl ?_
      refine r_goto hX dX1_isUnder_32 ?_
      refine r_iload_n hX dX1_isUnder_4 rfl ?_
      refine r_getst hX hZ dX1_isUnder_5 (inT_2 (List.mem_of_getElem? (i := 184) rfl) rfl) ?_
      refine r_alenT hX hT dX1_isUnder_8 ?_
      refine r_icmpN_ge hX dX1_isUnder_9 (by decide) (by decide) (fun c3 => absurd c3 (by decide)) (fun c3 => ?_)
      refine r_iload_n hX dX1_isUnder_12 rfl ?_
      refine r_if_lt hX dX1_isUnder_13 (fun c4 => ?_) (fun c4 => absurd c4 (by decide))
      refine r_iconst hX (nI 0) dX1_isUnder_35 rfl ?_
      exact r_zreturn hX hQ dX1_isUnder_36 ⟨Nat.le_of_ble_eq_true rfl, Nat.le_of_ble_eq_true rfl⟩ rfl (PF.mk (by clear  hQ hX hX0 hN2 hN3 hl hD hnl; clear hZ hT hK; grind [undB, bI]))
    · skip
      refine r_iconst hX (nI 1) dX1_isUnder_21 rfl ?_
      exact r_zreturn hX hQ dX1_isUnder_22 ⟨Nat.le_of_ble_eq_true rfl, Nat.le_of_ble_eq_true rfl⟩ rfl (PF.mk (by clear  hQ hX hX0 hN2 hN3 hl hD hnl; clear hZ hT hK; grind [undB, bI]))
  · skip
    refine r_iload_n hX dX1_isUnder_0 rfl ?_
    refine r_istore_n hX [(0, .int (nI 1)), (1, .int (nI a)), (2, .int (nI 1))] dX1_isUnder_1 hN2 rfl ?_
    refine r_iconst hX (nI 0) dX1_isUnder_2 rfl ?_
    refine r_istore_n hX [(0, .int (nI 1)), (1, .int (nI a)), (2, .int (nI 1)), (3, .int (nI 0))] dX1_isUnder_3 hN3 rfl ?_
    refine r_iload_n hX dX1_isUnder_4 rfl ?_
    refine r_getst hX hZ dX1_isUnder_5 (inT_2 (List.mem_of_getElem? (i := 184) rfl) rfl) ?_
    refine r_alenT hX hT dX1_isUnder_8 ?_
    refine r_icmpN_ge hX dX1_isUnder_9 (by decide) (by decide) (fun c5 => absurd c5 (by decide)) (fun c5 => ?_)
    refine r_iload_n hX dX1_isUnder_12 rfl ?_
    refine r_ifN_lt hX dX1_isUnder_13 (by decide) ?_
    refine r_iload_n hX dX1_isUnder_16 rfl ?_
    refine r_iload_n hX dX1_isUnder_17 rfl ?_
    refine r_icmpN_ne hX dX1_isUnder_18 (by decide) (by omega) (fun c6 => ?_) (fun c6 => ?_)
    · skip
      refine r_getst hX hZ dX1_isUnder_23 (inT_2 (List.mem_of_getElem? (i := 184) rfl) rfl) ?_
      refine r_iload_n hX dX1_isUnder_26 rfl ?_
      refine r_ialdT hX hT dX1_isUnder_27 (by decide) (by decide) (nI 0) rfl ?_
      refine r_istore_n hX [(0, .int (nI 1)), (1, .int (nI a)), (2, .int (nI 0)), (3, .int (nI 0))] dX1_isUnder_28 hN2 rfl ?_
      refine r_iincN (n := 1) hX [(0, .int (nI 1)), (1, .int (nI a)), (2, .int (nI 0)), (3, .int (nI 1))] dX1_isUnder_29 rfl hN3 rfl ?_
      refine r_goto hX dX1_isUnder_32 ?_
      refine r_iload_n hX dX1_isUnder_4 rfl ?_
      refine r_getst hX hZ dX1_isUnder_5 (inT_2 (List.mem_of_getElem? (i := 184) rfl) rfl) ?_
      refine r_alenT hX hT dX1_isUnder_8 ?_
      refine r_icmpN_ge hX dX1_isUnder_9 (by decide) (by decide) (fun c7 => absurd c7 (by decide)) (fun c7 => ?_)
      refine r_iload_n hX dX1_isUnder_12 rfl ?_
      refine r_ifN_lt hX dX1_isUnder_13 (by decide) ?_
      refine r_iload_n hX dX1_isUnder_16 rfl ?_
      refine r_iload_n hX dX1_isUnder_17 rfl ?_
      refine r_icmpN_ne hX dX1_isUnder_18 (by decide) (by omega) (fun c8 => ?_) (fun c8 => ?_)
      · skip
        refine r_getst hX hZ dX1_isUnder_23 (inT_2 (List.mem_of_getElem? (i := 184) rfl) rfl) ?_
        refine r_iload_n hX dX1_isUnder_26 rfl ?_
        refine r_ialdT hX hT dX1_isUnder_27 (by decide) (by decide) (-1) rfl ?_
        refine r_istore_n hX [(0, .int (nI 1)), (1, .int (nI a)), (2, .int (-1)), (3, .int (nI 1))] dX1_isUnder_28 hN2 rfl ?_
        refine r_iincN (n := 1) hX [(0, .int (nI 1)), (1, .int (nI a)), (2, .int (-1)), (3, .int (nI 2))] dX1_isUnder_29 rfl hN3 rfl ?_
        refine r_goto hX dX1_isUnder_32 ?_
        refine r_iload_n hX dX1_isUnder_4 rfl ?_
        refine r_getst hX hZ dX1_isUnder_5 (inT_2 (List.mem_of_getElem? (i := 184) rfl) rfl) ?_
        refine r_alenT hX hT dX1_isUnder_8 ?_
        refine r_icmpN_ge hX dX1_isUnder_9 (by decide) (by decide) (fun c9 => absurd c9 (by decide)) (fun c9 => ?_)
        refine r_iload_n hX dX1_isUnder_12 rfl ?_
        refine r_if_lt hX dX1_isUnder_13 (fun c10 => ?_) (fun c10 => absurd c10 (by decide))
        refine r_iconst hX (nI 0) dX1_isUnder_35 rfl ?_
        exact r_zreturn hX hQ dX1_isUnder_36 ⟨Nat.le_of_ble_eq_true rfl, Nat.le_of_ble_eq_true rfl⟩ rfl (PF.mk (by clear  hQ hX hX0 hN2 hN3 hl hD hnl; clear hZ hT hK; grind [undB, bI]))
      · skip
        refine r_iconst hX (nI 1) dX1_isUnder_21 rfl ?_
        exact r_zreturn hX hQ dX1_isUnder_22 ⟨Nat.le_of_ble_eq_true rfl, Nat.le_of_ble_eq_true rfl⟩ rfl (PF.mk (by clear  hQ hX hX0 hN2 hN3 hl hD hnl; clear hZ hT hK; grind [undB, bI]))
    · skip
      refine r_iconst hX (nI 1) dX1_isUnder_21 rfl ?_
      exact r_zreturn hX hQ dX1_isUnder_22 ⟨Nat.le_of_ble_eq_true rfl, Nat.le_of_ble_eq_true rfl⟩ rfl (PF.mk (by clear  hQ hX hX0 hN2 hN3 hl hD hnl; clear hZ hT hK; grind [undB, bI]))
  · skip
    refine r_iload_n hX dX1_isUnder_0 rfl ?_
    refine r_istore_n hX [(0, .int (nI 2)), (1, .int (nI a)), (2, .int (nI 2))] dX1_isUnder_1 hN2 rfl ?_
    refine r_iconst hX (nI 0) dX1_isUnder_2 rfl ?_
    refine r_istore_n hX [(0, .int (nI 2)), (1, .int (nI a)), (2, .int (nI 2)), (3, .int (nI 0))] dX1_isUnder_3 hN3 rfl ?_
    refine r_iload_n hX dX1_isUnder_4 rfl ?_
    refine r_getst hX hZ dX1_isUnder_5 (inT_2 (List.mem_of_getElem? (i := 184) rfl) rfl) ?_
    refine r_alenT hX hT dX1_isUnder_8 ?_
    refine r_icmpN_ge hX dX1_isUnder_9 (by decide) (by decide) (fun c11 => absurd c11 (by decide)) (fun c11 => ?_)
    refine r_iload_n hX dX1_isUnder_12 rfl ?_
    refine r_ifN_lt hX dX1_isUnder_13 (by decide) ?_
    refine r_iload_n hX dX1_isUnder_16 rfl ?_
    refine r_iload_n hX dX1_isUnder_17 rfl ?_
    refine r_icmpN_ne hX dX1_isUnder_18 (by decide) (by omega) (fun c12 => ?_) (fun c12 => ?_)
    · skip
      refine r_getst hX hZ dX1_isUnder_23 (inT_2 (List.mem_of_getElem? (i := 184) rfl) rfl) ?_
      refine r_iload_n hX dX1_isUnder_26 rfl ?_
      refine r_ialdT hX hT dX1_isUnder_27 (by decide) (by decide) (nI 0) rfl ?_
      refine r_istore_n hX [(0, .int (nI 2)), (1, .int (nI a)), (2, .int (nI 0)), (3, .int (nI 0))] dX1_isUnder_28 hN2 rfl ?_
      refine r_iincN (n := 1) hX [(0, .int (nI 2)), (1, .int (nI a)), (2, .int (nI 0)), (3, .int (nI 1))] dX1_isUnder_29 rfl hN3 rfl ?_
      refine r_goto hX dX1_isUnder_32 ?_
      refine r_iload_n hX dX1_isUnder_4 rfl ?_
      refine r_getst hX hZ dX1_isUnder_5 (inT_2 (List.mem_of_getElem? (i := 184) rfl) rfl) ?_
      refine r_alenT hX hT dX1_isUnder_8 ?_
      refine r_icmpN_ge hX dX1_isUnder_9 (by decide) (by decide) (fun c13 => absurd c13 (by decide)) (fun c13 => ?_)
      refine r_iload_n hX dX1_isUnder_12 rfl ?_
      refine r_ifN_lt hX dX1_isUnder_13 (by decide) ?_
      refine r_iload_n hX dX1_isUnder_16 rfl ?_
      refine r_iload_n hX dX1_isUnder_17 rfl ?_
      refine r_icmpN_ne hX dX1_isUnder_18 (by decide) (by omega) (fun c14 => ?_) (fun c14 => ?_)
      · skip
        refine r_getst hX hZ dX1_isUnder_23 (inT_2 (List.mem_of_getElem? (i := 184) rfl) rfl) ?_
        refine r_iload_n hX dX1_isUnder_26 rfl ?_
        refine r_ialdT hX hT dX1_isUnder_27 (by decide) (by decide) (-1) rfl ?_
        refine r_istore_n hX [(0, .int (nI 2)), (1, .int (nI a)), (2, .int (-1)), (3, .int (nI 1))] dX1_isUnder_28 hN2 rfl ?_
        refine r_iincN (n := 1) hX [(0, .int (nI 2)), (1, .int (nI a)), (2, .int (-1)), (3, .int (nI 2))] dX1_isUnder_29 rfl hN3 rfl ?_
        refine r_goto hX dX1_isUnder_32 ?_
        refine r_iload_n hX dX1_isUnder_4 rfl ?_
        refine r_getst hX hZ dX1_isUnder_5 (inT_2 (List.mem_of_getElem? (i := 184) rfl) rfl) ?_
        refine r_alenT hX hT dX1_isUnder_8 ?_
        refine r_icmpN_ge hX dX1_isUnder_9 (by decide) (by decide) (fun c15 => absurd c15 (by decide)) (fun c15 => ?_)
        refine r_iload_n hX dX1_isUnder_12 rfl ?_
        refine r_if_lt hX dX1_isUnder_13 (fun c16 => ?_) (fun c16 => absurd c16 (by decide))
        refine r_iconst hX (nI 0) dX1_isUnder_35 rfl ?_
        exact r_zreturn hX hQ dX1_isUnder_36 ⟨Nat.le_of_ble_eq_true rfl, Nat.le_of_ble_eq_true rfl⟩ rfl (PF.mk (by clear  hQ hX hX0 hN2 hN3 hl hD hnl; clear hZ hT hK; grind [undB, bI]))
      · skip
        refine r_iconst hX (nI 1) dX1_isUnder_21 rfl ?_
        exact r_zreturn hX hQ dX1_isUnder_22 ⟨Nat.le_of_ble_eq_true rfl, Nat.le_of_ble_eq_true rfl⟩ rfl (PF.mk (by clear  hQ hX hX0 hN2 hN3 hl hD hnl; clear hZ hT hK; grind [undB, bI]))
    · skip
      refine r_iconst hX (nI 1) dX1_isUnder_21 rfl ?_
      exact r_zreturn hX hQ dX1_isUnder_22 ⟨Nat.le_of_ble_eq_true rfl, Nat.le_of_ble_eq_true rfl⟩ rfl (PF.mk (by clear  hQ hX hX0 hN2 hN3 hl hD hnl; clear hZ hT hK; grind [undB, bI]))
  · skip
    refine r_iload_n hX dX1_isUnder_0 rfl ?_
    refine r_istore_n hX [(0, .int (nI 3)), (1, .int (nI a)), (2, .int (nI 3))] dX1_isUnder_1 hN2 rfl ?_
    refine r_iconst hX (nI 0) dX1_isUnder_2 rfl ?_
    refine r_istore_n hX [(0, .int (nI 3)), (1, .int (nI a)), (2, .int (nI 3)), (3, .int (nI 0))] dX1_isUnder_3 hN3 rfl ?_
    refine r_iload_n hX dX1_isUnder_4 rfl ?_
    refine r_getst hX hZ dX1_isUnder_5 (inT_2 (List.mem_of_getElem? (i := 184) rfl) rfl) ?_
    refine r_alenT hX hT dX1_isUnder_8 ?_
    refine r_icmpN_ge hX dX1_isUnder_9 (by decide) (by decide) (fun c17 => absurd c17 (by decide)) (fun c17 => ?_)
    refine r_iload_n hX dX1_isUnder_12 rfl ?_
    refine r_ifN_lt hX dX1_isUnder_13 (by decide) ?_
    refine r_iload_n hX dX1_isUnder_16 rfl ?_
    refine r_iload_n hX dX1_isUnder_17 rfl ?_
    refine r_icmpN_ne hX dX1_isUnder_18 (by decide) (by omega) (fun c18 => ?_) (fun c18 => ?_)
    · skip
      refine r_getst hX hZ dX1_isUnder_23 (inT_2 (List.mem_of_getElem? (i := 184) rfl) rfl) ?_
      refine r_iload_n hX dX1_isUnder_26 rfl ?_
      refine r_ialdT hX hT dX1_isUnder_27 (by decide) (by decide) (nI 1) rfl ?_
      refine r_istore_n hX [(0, .int (nI 3)), (1, .int (nI a)), (2, .int (nI 1)), (3, .int (nI 0))] dX1_isUnder_28 hN2 rfl ?_
      refine r_iincN (n := 1) hX [(0, .int (nI 3)), (1, .int (nI a)), (2, .int (nI 1)), (3, .int (nI 1))] dX1_isUnder_29 rfl hN3 rfl ?_
      refine r_goto hX dX1_isUnder_32 ?_
      refine r_iload_n hX dX1_isUnder_4 rfl ?_
      refine r_getst hX hZ dX1_isUnder_5 (inT_2 (List.mem_of_getElem? (i := 184) rfl) rfl) ?_
      refine r_alenT hX hT dX1_isUnder_8 ?_
      refine r_icmpN_ge hX dX1_isUnder_9 (by decide) (by decide) (fun c19 => absurd c19 (by decide)) (fun c19 => ?_)
      refine r_iload_n hX dX1_isUnder_12 rfl ?_
      refine r_ifN_lt hX dX1_isUnder_13 (by decide) ?_
      refine r_iload_n hX dX1_isUnder_16 rfl ?_
      refine r_iload_n hX dX1_isUnder_17 rfl ?_
      refine r_icmpN_ne hX dX1_isUnder_18 (by decide) (by omega) (fun c20 => ?_) (fun c20 => ?_)
      · skip
        refine r_getst hX hZ dX1_isUnder_23 (inT_2 (List.mem_of_getElem? (i := 184) rfl) rfl) ?_
        refine r_iload_n hX dX1_isUnder_26 rfl ?_
        refine r_ialdT hX hT dX1_isUnder_27 (by decide) (by decide) (nI 0) rfl ?_
        refine r_istore_n hX [(0, .int (nI 3)), (1, .int (nI a)), (2, .int (nI 0)), (3, .int (nI 1))] dX1_isUnder_28 hN2 rfl ?_
        refine r_iincN (n := 1) hX [(0, .int (nI 3)), (1, .int (nI a)), (2, .int (nI 0)), (3, .int (nI 2))] dX1_isUnder_29 rfl hN3 rfl ?_
        refine r_goto hX dX1_isUnder_32 ?_
        refine r_iload_n hX dX1_isUnder_4 rfl ?_
        refine r_getst hX hZ dX1_isUnder_5 (inT_2 (List.mem_of_getElem? (i := 184) rfl) rfl) ?_
        refine r_alenT hX hT dX1_isUnder_8 ?_
        refine r_icmpN_ge hX dX1_isUnder_9 (by decide) (by decide) (fun c21 => absurd c21 (by decide)) (fun c21 => ?_)
        refine r_iload_n hX dX1_isUnder_12 rfl ?_
        refine r_ifN_lt hX dX1_isUnder_13 (by decide) ?_
        refine r_iload_n hX dX1_isUnder_16 rfl ?_
        refine r_iload_n hX dX1_isUnder_17 rfl ?_
        refine r_icmpN_ne hX dX1_isUnder_18 (by decide) (by omega) (fun c22 => ?_) (fun c22 => ?_)
        · skip
          refine r_getst hX hZ dX1_isUnder_23 (inT_2 (List.mem_of_getElem? (i := 184) rfl) rfl) ?_
          refine r_iload_n hX dX1_isUnder_26 rfl ?_
          refine r_ialdT hX hT dX1_isUnder_27 (by decide) (by decide) (-1) rfl ?_
          refine r_istore_n hX [(0, .int (nI 3)), (1, .int (nI a)), (2, .int (-1)), (3, .int (nI 2))] dX1_isUnder_28 hN2 rfl ?_
          refine r_iincN (n := 1) hX [(0, .int (nI 3)), (1, .int (nI a)), (2, .int (-1)), (3, .int (nI 3))] dX1_isUnder_29 rfl hN3 rfl ?_
          refine r_goto hX dX1_isUnder_32 ?_
          refine r_iload_n hX dX1_isUnder_4 rfl ?_
          refine r_getst hX hZ dX1_isUnder_5 (inT_2 (List.mem_of_getElem? (i := 184) rfl) rfl) ?_
          refine r_alenT hX hT dX1_isUnder_8 ?_
          refine r_icmpN_ge hX dX1_isUnder_9 (by decide) (by decide) (fun c23 => absurd c23 (by decide)) (fun c23 => ?_)
          refine r_iload_n hX dX1_isUnder_12 rfl ?_
          refine r_if_lt hX dX1_isUnder_13 (fun c24 => ?_) (fun c24 => absurd c24 (by decide))
          refine r_iconst hX (nI 0) dX1_isUnder_35 rfl ?_
          exact r_zreturn hX hQ dX1_isUnder_36 ⟨Nat.le_of_ble_eq_true rfl, Nat.le_of_ble_eq_true rfl⟩ rfl (PF.mk (by clear  hQ hX hX0 hN2 hN3 hl hD hnl; clear hZ hT hK; grind [undB, bI]))
        · skip
          refine r_iconst hX (nI 1) dX1_isUnder_21 rfl ?_
          exact r_zreturn hX hQ dX1_isUnder_22 ⟨Nat.le_of_ble_eq_true rfl, Nat.le_of_ble_eq_true rfl⟩ rfl (PF.mk (by clear  hQ hX hX0 hN2 hN3 hl hD hnl; clear hZ hT hK; grind [undB, bI]))
      · skip
        refine r_iconst hX (nI 1) dX1_isUnder_21 rfl ?_
        exact r_zreturn hX hQ dX1_isUnder_22 ⟨Nat.le_of_ble_eq_true rfl, Nat.le_of_ble_eq_true rfl⟩ rfl (PF.mk (by clear  hQ hX hX0 hN2 hN3 hl hD hnl; clear hZ hT hK; grind [undB, bI]))
    · skip
      refine r_iconst hX (nI 1) dX1_isUnder_21 rfl ?_
      exact r_zreturn hX hQ dX1_isUnder_22 ⟨Nat.le_of_ble_eq_true rfl, Nat.le_of_ble_eq_true rfl⟩ rfl (PF.mk (by clear  hQ hX hX0 hN2 hN3 hl hD hnl; clear hZ hT hK; grind [undB, bI]))
  · skip
    refine r_iload_n hX dX1_isUnder_0 rfl ?_
    refine r_istore_n hX [(0, .int (nI 4)), (1, .int (nI a)), (2, .int (nI 4))] dX1_isUnder_1 hN2 rfl ?_
    refine r_iconst hX (nI 0) dX1_isUnder_2 rfl ?_
    refine r_istore_n hX [(0, .int (nI 4)), (1, .int (nI a)), (2, .int (nI 4)), (3, .int (nI 0))] dX1_isUnder_3 hN3 rfl ?_
    refine r_iload_n hX dX1_isUnder_4 rfl ?_
    refine r_getst hX hZ dX1_isUnder_5 (inT_2 (List.mem_of_getElem? (i := 184) rfl) rfl) ?_
    refine r_alenT hX hT dX1_isUnder_8 ?_
    refine r_icmpN_ge hX dX1_isUnder_9 (by decide) (by decide) (fun c25 => absurd c25 (by decide)) (fun c25 => ?_)
    refine r_iload_n hX dX1_isUnder_12 rfl ?_
    refine r_ifN_lt hX dX1_isUnder_13 (by decide) ?_
    refine r_iload_n hX dX1_isUnder_16 rfl ?_
    refine r_iload_n hX dX1_isUnder_17 rfl ?_
    refine r_icmpN_ne hX dX1_isUnder_18 (by decide) (by omega) (fun c26 => ?_) (fun c26 => ?_)
    · skip
      refine r_getst hX hZ dX1_isUnder_23 (inT_2 (List.mem_of_getElem? (i := 184) rfl) rfl) ?_
      refine r_iload_n hX dX1_isUnder_26 rfl ?_
      refine r_ialdT hX hT dX1_isUnder_27 (by decide) (by decide) (nI 2) rfl ?_
      refine r_istore_n hX [(0, .int (nI 4)), (1, .int (nI a)), (2, .int (nI 2)), (3, .int (nI 0))] dX1_isUnder_28 hN2 rfl ?_
      refine r_iincN (n := 1) hX [(0, .int (nI 4)), (1, .int (nI a)), (2, .int (nI 2)), (3, .int (nI 1))] dX1_isUnder_29 rfl hN3 rfl ?_
      refine r_goto hX dX1_isUnder_32 ?_
      refine r_iload_n hX dX1_isUnder_4 rfl ?_
      refine r_getst hX hZ dX1_isUnder_5 (inT_2 (List.mem_of_getElem? (i := 184) rfl) rfl) ?_
      refine r_alenT hX hT dX1_isUnder_8 ?_
      refine r_icmpN_ge hX dX1_isUnder_9 (by decide) (by decide) (fun c27 => absurd c27 (by decide)) (fun c27 => ?_)
      refine r_iload_n hX dX1_isUnder_12 rfl ?_
      refine r_ifN_lt hX dX1_isUnder_13 (by decide) ?_
      refine r_iload_n hX dX1_isUnder_16 rfl ?_
      refine r_iload_n hX dX1_isUnder_17 rfl ?_
      refine r_icmpN_ne hX dX1_isUnder_18 (by decide) (by omega) (fun c28 => ?_) (fun c28 => ?_)
      · skip
        refine r_getst hX hZ dX1_isUnder_23 (inT_2 (List.mem_of_getElem? (i := 184) rfl) rfl) ?_
        refine r_iload_n hX dX1_isUnder_26 rfl ?_
        refine r_ialdT hX hT dX1_isUnder_27 (by decide) (by decide) (nI 0) rfl ?_
        refine r_istore_n hX [(0, .int (nI 4)), (1, .int (nI a)), (2, .int (nI 0)), (3, .int (nI 1))] dX1_isUnder_28 hN2 rfl ?_
        refine r_iincN (n := 1) hX [(0, .int (nI 4)), (1, .int (nI a)), (2, .int (nI 0)), (3, .int (nI 2))] dX1_isUnder_29 rfl hN3 rfl ?_
        refine r_goto hX dX1_isUnder_32 ?_
        refine r_iload_n hX dX1_isUnder_4 rfl ?_
        refine r_getst hX hZ dX1_isUnder_5 (inT_2 (List.mem_of_getElem? (i := 184) rfl) rfl) ?_
        refine r_alenT hX hT dX1_isUnder_8 ?_
        refine r_icmpN_ge hX dX1_isUnder_9 (by decide) (by decide) (fun c29 => absurd c29 (by decide)) (fun c29 => ?_)
        refine r_iload_n hX dX1_isUnder_12 rfl ?_
        refine r_ifN_lt hX dX1_isUnder_13 (by decide) ?_
        refine r_iload_n hX dX1_isUnder_16 rfl ?_
        refine r_iload_n hX dX1_isUnder_17 rfl ?_
        refine r_icmpN_ne hX dX1_isUnder_18 (by decide) (by omega) (fun c30 => ?_) (fun c30 => ?_)
        · skip
          refine r_getst hX hZ dX1_isUnder_23 (inT_2 (List.mem_of_getElem? (i := 184) rfl) rfl) ?_
          refine r_iload_n hX dX1_isUnder_26 rfl ?_
          refine r_ialdT hX hT dX1_isUnder_27 (by decide) (by decide) (-1) rfl ?_
          refine r_istore_n hX [(0, .int (nI 4)), (1, .int (nI a)), (2, .int (-1)), (3, .int (nI 2))] dX1_isUnder_28 hN2 rfl ?_
          refine r_iincN (n := 1) hX [(0, .int (nI 4)), (1, .int (nI a)), (2, .int (-1)), (3, .int (nI 3))] dX1_isUnder_29 rfl hN3 rfl ?_
          refine r_goto hX dX1_isUnder_32 ?_
          refine r_iload_n hX dX1_isUnder_4 rfl ?_
          refine r_getst hX hZ dX1_isUnder_5 (inT_2 (List.mem_of_getElem? (i := 184) rfl) rfl) ?_
          refine r_alenT hX hT dX1_isUnder_8 ?_
          refine r_icmpN_ge hX dX1_isUnder_9 (by decide) (by decide) (fun c31 => absurd c31 (by decide)) (fun c31 => ?_)
          refine r_iload_n hX dX1_isUnder_12 rfl ?_
          refine r_if_lt hX dX1_isUnder_13 (fun c32 => ?_) (fun c32 => absurd c32 (by decide))
          refine r_iconst hX (nI 0) dX1_isUnder_35 rfl ?_
          exact r_zreturn hX hQ dX1_isUnder_36 ⟨Nat.le_of_ble_eq_true rfl, Nat.le_of_ble_eq_true rfl⟩ rfl (PF.mk (by clear  hQ hX hX0 hN2 hN3 hl hD hnl; clear hZ hT hK; grind [undB, bI]))
        · skip
          refine r_iconst hX (nI 1) dX1_isUnder_21 rfl ?_
          exact r_zreturn hX hQ dX1_isUnder_22 ⟨Nat.le_of_ble_eq_true rfl, Nat.le_of_ble_eq_true rfl⟩ rfl (PF.mk (by clear  hQ hX hX0 hN2 hN3 hl hD hnl; clear hZ hT hK; grind [undB, bI]))
      · skip
        refine r_iconst hX (nI 1) dX1_isUnder_21 rfl ?_
        exact r_zreturn hX hQ dX1_isUnder_22 ⟨Nat.le_of_ble_eq_true rfl, Nat.le_of_ble_eq_true rfl⟩ rfl (PF.mk (by clear  hQ hX hX0 hN2 hN3 hl hD hnl; clear hZ hT hK; grind [undB, bI]))
    · skip
      refine r_iconst hX (nI 1) dX1_isUnder_21 rfl ?_
      exact r_zreturn hX hQ dX1_isUnder_22 ⟨Nat.le_of_ble_eq_true rfl, Nat.le_of_ble_eq_true rfl⟩ rfl (PF.mk (by clear  hQ hX hX0 hN2 hN3 hl hD hnl; clear hZ hT hK; grind [undB, bI]))
  · skip
    refine r_iload_n hX dX1_isUnder_0 rfl ?_
    refine r_istore_n hX [(0, .int (nI 5)), (1, .int (nI a)), (2, .int (nI 5))] dX1_isUnder_1 hN2 rfl ?_
    refine r_iconst hX (nI 0) dX1_isUnder_2 rfl ?_
    refine r_istore_n hX [(0, .int (nI 5)), (1, .int (nI a)), (2, .int (nI 5)), (3, .int (nI 0))] dX1_isUnder_3 hN3 rfl ?_
    refine r_iload_n hX dX1_isUnder_4 rfl ?_
    refine r_getst hX hZ dX1_isUnder_5 (inT_2 (List.mem_of_getElem? (i := 184) rfl) rfl) ?_
    refine r_alenT hX hT dX1_isUnder_8 ?_
    refine r_icmpN_ge hX dX1_isUnder_9 (by decide) (by decide) (fun c33 => absurd c33 (by decide)) (fun c33 => ?_)
    refine r_iload_n hX dX1_isUnder_12 rfl ?_
    refine r_ifN_lt hX dX1_isUnder_13 (by decide) ?_
    refine r_iload_n hX dX1_isUnder_16 rfl ?_
    refine r_iload_n hX dX1_isUnder_17 rfl ?_
    refine r_icmpN_ne hX dX1_isUnder_18 (by decide) (by omega) (fun c34 => ?_) (fun c34 => ?_)
    · skip
      refine r_getst hX hZ dX1_isUnder_23 (inT_2 (List.mem_of_getElem? (i := 184) rfl) rfl) ?_
      refine r_iload_n hX dX1_isUnder_26 rfl ?_
      refine r_ialdT hX hT dX1_isUnder_27 (by decide) (by decide) (nI 0) rfl ?_
      refine r_istore_n hX [(0, .int (nI 5)), (1, .int (nI a)), (2, .int (nI 0)), (3, .int (nI 0))] dX1_isUnder_28 hN2 rfl ?_
      refine r_iincN (n := 1) hX [(0, .int (nI 5)), (1, .int (nI a)), (2, .int (nI 0)), (3, .int (nI 1))] dX1_isUnder_29 rfl hN3 rfl ?_
      refine r_goto hX dX1_isUnder_32 ?_
      refine r_iload_n hX dX1_isUnder_4 rfl ?_
      refine r_getst hX hZ dX1_isUnder_5 (inT_2 (List.mem_of_getElem? (i := 184) rfl) rfl) ?_
      refine r_alenT hX hT dX1_isUnder_8 ?_
      refine r_icmpN_ge hX dX1_isUnder_9 (by decide) (by decide) (fun c35 => absurd c35 (by decide)) (fun c35 => ?_)
      refine r_iload_n hX dX1_isUnder_12 rfl ?_
      refine r_ifN_lt hX dX1_isUnder_13 (by decide) ?_
      refine r_iload_n hX dX1_isUnder_16 rfl ?_
      refine r_iload_n hX dX1_isUnder_17 rfl ?_
      refine r_icmpN_ne hX dX1_isUnder_18 (by decide) (by omega) (fun c36 => ?_) (fun c36 => ?_)
      · skip
        refine r_getst hX hZ dX1_isUnder_23 (inT_2 (List.mem_of_getElem? (i := 184) rfl) rfl) ?_
        refine r_iload_n hX dX1_isUnder_26 rfl ?_
        refine r_ialdT hX hT dX1_isUnder_27 (by decide) (by decide) (-1) rfl ?_
        refine r_istore_n hX [(0, .int (nI 5)), (1, .int (nI a)), (2, .int (-1)), (3, .int (nI 1))] dX1_isUnder_28 hN2 rfl ?_
        refine r_iincN (n := 1) hX [(0, .int (nI 5)), (1, .int (nI a)), (2, .int (-1)), (3, .int (nI 2))] dX1_isUnder_29 rfl hN3 rfl ?_
        refine r_goto hX dX1_isUnder_32 ?_
        refine r_iload_n hX dX1_isUnder_4 rfl ?_
        refine r_getst hX hZ dX1_isUnder_5 (inT_2 (List.mem_of_getElem? (i := 184) rfl) rfl) ?_
        refine r_alenT hX hT dX1_isUnder_8 ?_
        refine r_icmpN_ge hX dX1_isUnder_9 (by decide) (by decide) (fun c37 => absurd c37 (by decide)) (fun c37 => ?_)
        refine r_iload_n hX dX1_isUnder_12 rfl ?_
        refine r_if_lt hX dX1_isUnder_13 (fun c38 => ?_) (fun c38 => absurd c38 (by decide))
        refine r_iconst hX (nI 0) dX1_isUnder_35 rfl ?_
        exact r_zreturn hX hQ dX1_isUnder_36 ⟨Nat.le_of_ble_eq_true rfl, Nat.le_of_ble_eq_true rfl⟩ rfl (PF.mk (by clear  hQ hX hX0 hN2 hN3 hl hD hnl; clear hZ hT hK; grind [undB, bI]))
      · skip
        refine r_iconst hX (nI 1) dX1_isUnder_21 rfl ?_
        exact r_zreturn hX hQ dX1_isUnder_22 ⟨Nat.le_of_ble_eq_true rfl, Nat.le_of_ble_eq_true rfl⟩ rfl (PF.mk (by clear  hQ hX hX0 hN2 hN3 hl hD hnl; clear hZ hT hK; grind [undB, bI]))
    · skip
      refine r_iconst hX (nI 1) dX1_isUnder_21 rfl ?_
      exact r_zreturn hX hQ dX1_isUnder_22 ⟨Nat.le_of_ble_eq_true rfl, Nat.le_of_ble_eq_true rfl⟩ rfl (PF.mk (by clear  hQ hX hX0 hN2 hN3 hl hD hnl; clear hZ hT hK; grind [undB, bI]))

set_option maxHeartbeats 4000000 in
set_option maxRecDepth 100000 in
theorem c_X1_isTrue {l : Launch} {D : Ds} {L : La}  (ka : Nat) (hK : KS D ka) (σ : Me) (k : Nat) (hk : k ≤ 5) : Ct l yX1_isTrue cX1_isTrue 1 (some .boolean) { frames := 1, cells := 0, slots := 0, locals := 23 } D L σ [.int (nI k)] (PF L σ (bI (trB k))) := by
  refine Ct.of (by decide) (Nat.le_of_ble_eq_true rfl) ?_
  intro X hl hD hnl hX0 hQ
  have hX : Ok X cX1_isTrue RX1 "isTrue" { frames := 1, cells := 0, slots := 0, locals := 23 } (some .boolean) := hX0
  show At X L σ 0 0 [(0, .int (nI k))] 0 []
  refine r_iload_n hX dX1_isTrue_0 rfl ?_
  refine r_iconst hX (nI 2) dX1_isTrue_1 rfl ?_
  refine r_callSF (As := [.int (nI k), .int (nI 2)]) (rest := []) hX (by rw [hl, hD]; exact c_X1_isUnder ka hK σ k 2 (by omega) (by omega)) dX1_isTrue_2 cb_X1_13 rfl rfl ⟨Nat.le_of_ble_eq_true rfl, Nat.le_of_ble_eq_true rfl⟩ ⟨Nat.le_of_ble_eq_true rfl, Nat.le_of_ble_eq_true rfl⟩ (Nat.le_of_ble_eq_true rfl) ?_
  refine r_ifB_ne hX dX1_isTrue_5 (fun c1 => ?_) (fun c1 => ?_)
  · skip
    refine r_iconst hX (nI 0) dX1_isTrue_20 rfl ?_
    exact r_zreturn hX hQ dX1_isTrue_21 ⟨Nat.le_of_ble_eq_true rfl, Nat.le_of_ble_eq_true rfl⟩ rfl (PF.mk (by clear  hQ hX hX0  hl hD hnl; clear hK; grind [trB, undB, bI]))
  · skip
    refine r_iload_n hX dX1_isTrue_8 rfl ?_
    refine r_iconst hX (nI 5) dX1_isTrue_9 rfl ?_
    refine r_callSF (As := [.int (nI k), .int (nI 5)]) (rest := []) hX (by rw [hl, hD]; exact c_X1_isUnder ka hK σ k 5 (by omega) (by omega)) dX1_isTrue_10 cb_X1_13 rfl rfl ⟨Nat.le_of_ble_eq_true rfl, Nat.le_of_ble_eq_true rfl⟩ ⟨Nat.le_of_ble_eq_true rfl, Nat.le_of_ble_eq_true rfl⟩ (Nat.le_of_ble_eq_true rfl) ?_
    refine r_ifB_ne hX dX1_isTrue_13 (fun c2 => ?_) (fun c2 => ?_)
    · skip
      refine r_iconst hX (nI 0) dX1_isTrue_20 rfl ?_
      exact r_zreturn hX hQ dX1_isTrue_21 ⟨Nat.le_of_ble_eq_true rfl, Nat.le_of_ble_eq_true rfl⟩ rfl (PF.mk (by clear  hQ hX hX0  hl hD hnl; clear hK; grind [trB, undB, bI]))
    · skip
      refine r_iconst hX (nI 1) dX1_isTrue_16 rfl ?_
      refine r_goto hX dX1_isTrue_17 ?_
      exact r_zreturn hX hQ dX1_isTrue_21 ⟨Nat.le_of_ble_eq_true rfl, Nat.le_of_ble_eq_true rfl⟩ rfl (PF.mk (by clear  hQ hX hX0  hl hD hnl; clear hK; grind [trB, undB, bI]))

set_option maxHeartbeats 4000000 in
set_option maxRecDepth 100000 in
theorem c_X1_says {l : Launch} {D : Ds} {L : La}  (σ : Me) (k q : Nat) (hk : k ≤ 5) (h1 : 1 ≤ q) (h5 : q ≤ 5) : Ct l yX1_says cX1_says 3 (some .int) { frames := 0, cells := 0, slots := 0, locals := 0 } D L σ [.int (nI k), .int (nI q)] (PF L σ (nI (sayN k q))) := by
  refine Ct.of (by decide) (Nat.le_of_ble_eq_true rfl) ?_
  intro X hl hD hnl hX0 hQ
  have hX : Ok X cX1_says RX1 "says" { frames := 0, cells := 0, slots := 0, locals := 0 } (some .int) := hX0
  have hN2 : 2 < xn X := by rw [hnl]; decide
  show At X L σ 0 0 [(0, .int (nI k)), (1, .int (nI q))] 0 []
  rcases (show k = 0 ∨ k = 1 ∨ k = 2 ∨ k = 3 ∨ k = 4 ∨ k = 5 from (by omega)) with rfl | rfl | rfl | rfl | rfl | rfl
  · skip
    refine r_bipush hX (nI 20) dX1_says_0 rfl ?_
    refine r_iload_n hX dX1_says_2 rfl ?_
    refine r_imulN hX dX1_says_3 ?_
    refine r_istore_n hX [(0, .int (nI 0)), (1, .int (nI q)), (2, .int (nI (20 * q)))] dX1_says_4 hN2 rfl ?_
    refine r_iload_n hX dX1_says_5 rfl ?_
    refine r_tabOut hX 54 dX1_says_6 (by rw [nI_toInt (by decide)]; decide) (by decide) ?_
    refine r_iload_n hX dX1_says_54 rfl ?_
    exact r_ireturn hX hQ dX1_says_55 ⟨Nat.le_of_ble_eq_true rfl, Nat.le_of_ble_eq_true rfl⟩ (PF.mk rfl)
  · skip
    refine r_bipush hX (nI 20) dX1_says_0 rfl ?_
    refine r_iload_n hX dX1_says_2 rfl ?_
    refine r_imulN hX dX1_says_3 ?_
    refine r_istore_n hX [(0, .int (nI 1)), (1, .int (nI q)), (2, .int (nI (20 * q)))] dX1_says_4 hN2 rfl ?_
    refine r_iload_n hX dX1_says_5 rfl ?_
    refine r_tabOut hX 54 dX1_says_6 (by rw [nI_toInt (by decide)]; decide) (by decide) ?_
    refine r_iload_n hX dX1_says_54 rfl ?_
    exact r_ireturn hX hQ dX1_says_55 ⟨Nat.le_of_ble_eq_true rfl, Nat.le_of_ble_eq_true rfl⟩ (PF.mk rfl)
  · skip
    refine r_bipush hX (nI 20) dX1_says_0 rfl ?_
    refine r_iload_n hX dX1_says_2 rfl ?_
    refine r_imulN hX dX1_says_3 ?_
    refine r_istore_n hX [(0, .int (nI 2)), (1, .int (nI q)), (2, .int (nI (20 * q)))] dX1_says_4 hN2 rfl ?_
    refine r_iload_n hX dX1_says_5 rfl ?_
    refine r_tabInN (v := 2) hX 41 dX1_says_6 (by decide) (by decide) (by decide) 35 rfl (by decide) ?_
    refine r_bipush hX (nI 50) dX1_says_41 rfl ?_
    exact r_ireturn hX hQ dX1_says_43 ⟨Nat.le_of_ble_eq_true rfl, Nat.le_of_ble_eq_true rfl⟩ (PF.mk rfl)
  · skip
    refine r_bipush hX (nI 20) dX1_says_0 rfl ?_
    refine r_iload_n hX dX1_says_2 rfl ?_
    refine r_imulN hX dX1_says_3 ?_
    refine r_istore_n hX [(0, .int (nI 3)), (1, .int (nI q)), (2, .int (nI (20 * q)))] dX1_says_4 hN2 rfl ?_
    refine r_iload_n hX dX1_says_5 rfl ?_
    refine r_tabInN (v := 3) hX 36 dX1_says_6 (by decide) (by decide) (by decide) 30 rfl (by decide) ?_
    refine r_iload_n hX dX1_says_36 rfl ?_
    refine r_bipush hX (nI 20) dX1_says_37 rfl ?_
    refine r_isubN hX dX1_says_39 (by omega) ?_
    exact r_ireturn hX hQ dX1_says_40 ⟨Nat.le_of_ble_eq_true rfl, Nat.le_of_ble_eq_true rfl⟩ (PF.mk rfl)
  · skip
    refine r_bipush hX (nI 20) dX1_says_0 rfl ?_
    refine r_iload_n hX dX1_says_2 rfl ?_
    refine r_imulN hX dX1_says_3 ?_
    refine r_istore_n hX [(0, .int (nI 4)), (1, .int (nI q)), (2, .int (nI (20 * q)))] dX1_says_4 hN2 rfl ?_
    refine r_iload_n hX dX1_says_5 rfl ?_
    refine r_tabInN (v := 4) hX 44 dX1_says_6 (by decide) (by decide) (by decide) 38 rfl (by decide) ?_
    refine r_bipush hX (nI 50) dX1_says_44 rfl ?_
    refine r_iload_n hX dX1_says_46 rfl ?_
    refine r_iaddN hX dX1_says_47 ?_
    exact r_ireturn hX hQ dX1_says_48 ⟨Nat.le_of_ble_eq_true rfl, Nat.le_of_ble_eq_true rfl⟩ (PF.mk rfl)
  · skip
    refine r_bipush hX (nI 20) dX1_says_0 rfl ?_
    refine r_iload_n hX dX1_says_2 rfl ?_
    refine r_imulN hX dX1_says_3 ?_
    refine r_istore_n hX [(0, .int (nI 5)), (1, .int (nI q)), (2, .int (nI (20 * q)))] dX1_says_4 hN2 rfl ?_
    refine r_iload_n hX dX1_says_5 rfl ?_
    refine r_tabInN (v := 5) hX 49 dX1_says_6 (by decide) (by decide) (by decide) 43 rfl (by decide) ?_
    refine r_bipush hX (nI 100) dX1_says_49 rfl ?_
    refine r_iload_n hX dX1_says_51 rfl ?_
    refine r_isubN hX dX1_says_52 (by omega) ?_
    exact r_ireturn hX hQ dX1_says_53 ⟨Nat.le_of_ble_eq_true rfl, Nat.le_of_ble_eq_true rfl⟩ (PF.mk rfl)

set_option maxHeartbeats 4000000 in
set_option maxRecDepth 100000 in
theorem c_X1_weight {l : Launch} {D : Ds} {L : La}  (σ : Me) (k p h : Nat) (hk : k ≤ 5) (hp : p ≤ 100) (hh : h ≤ 999) : Ct l yX1_weight cX1_weight 4 (some .int) { frames := 1, cells := 0, slots := 0, locals := 21 } D L σ [.int (nI k), .int (nI p), .int (nI h)] (PF L σ (nI (wkN k p h))) := by
  refine Ct.of (by decide) (Nat.le_of_ble_eq_true rfl) ?_
  intro X hl hD hnl hX0 hQ
  have hX : Ok X cX1_weight RX1 "weight" { frames := 1, cells := 0, slots := 0, locals := 21 } (some .int) := hX0
  have hN3 : 3 < xn X := by rw [hnl]; decide
  show At X L σ 0 0 [(0, .int (nI k)), (1, .int (nI p)), (2, .int (nI h))] 0 []
  rcases (show k = 0 ∨ k = 1 ∨ k = 2 ∨ k = 3 ∨ k = 4 ∨ k = 5 from (by omega)) with rfl | rfl | rfl | rfl | rfl | rfl
  · skip
    refine r_iconst hX (nI 0) dX1_weight_0 rfl ?_
    refine r_iload_n hX dX1_weight_1 rfl ?_
    refine r_iconst hX (nI 1) dX1_weight_2 rfl ?_
    refine r_isub hX dX1_weight_3 ?_
    refine r_max hX dX1_weight_4 cb_X1_17 ⟨Nat.le_of_ble_eq_true rfl, Nat.le_of_ble_eq_true rfl⟩ ⟨Nat.le_of_ble_eq_true rfl, Nat.le_of_ble_eq_true rfl⟩ (Nat.le_of_ble_eq_true rfl) (nI (p - 1)) (mxI_p (by omega)) ?_
    refine r_istore_n hX [(0, .int (nI 0)), (1, .int (nI p)), (2, .int (nI h)), (3, .int (nI (p - 1)))] dX1_weight_7 hN3 rfl ?_
    refine r_iload_n hX dX1_weight_8 rfl ?_
    refine r_tabOut hX 70 dX1_weight_9 (by rw [nI_toInt (by decide)]; decide) (by decide) ?_
    refine r_iload_n hX dX1_weight_70 rfl ?_
    exact r_ireturn hX hQ dX1_weight_71 ⟨Nat.le_of_ble_eq_true rfl, Nat.le_of_ble_eq_true rfl⟩ (PF.mk (by clear  hQ hX hX0 hN3 hl hD hnl; simp [wkN]; try grind))
  · skip
    refine r_iconst hX (nI 0) dX1_weight_0 rfl ?_
    refine r_iload_n hX dX1_weight_1 rfl ?_
    refine r_iconst hX (nI 1) dX1_weight_2 rfl ?_
    refine r_isub hX dX1_weight_3 ?_
    refine r_max hX dX1_weight_4 cb_X1_17 ⟨Nat.le_of_ble_eq_true rfl, Nat.le_of_ble_eq_true rfl⟩ ⟨Nat.le_of_ble_eq_true rfl, Nat.le_of_ble_eq_true rfl⟩ (Nat.le_of_ble_eq_true rfl) (nI (p - 1)) (mxI_p (by omega)) ?_
    refine r_istore_n hX [(0, .int (nI 1)), (1, .int (nI p)), (2, .int (nI h)), (3, .int (nI (p - 1)))] dX1_weight_7 hN3 rfl ?_
    refine r_iload_n hX dX1_weight_8 rfl ?_
    refine r_tabInN (v := 1) hX 44 dX1_weight_9 (by decide) (by decide) (by decide) 35 rfl (by decide) ?_
    refine r_iload_n hX dX1_weight_44 rfl ?_
    refine r_iconst hX (nI 1) dX1_weight_45 rfl ?_
    refine r_iaddN hX dX1_weight_46 ?_
    exact r_ireturn hX hQ dX1_weight_47 ⟨Nat.le_of_ble_eq_true rfl, Nat.le_of_ble_eq_true rfl⟩ (PF.mk (by clear  hQ hX hX0 hN3 hl hD hnl; simp [wkN]; try grind))
  · skip
    refine r_iconst hX (nI 0) dX1_weight_0 rfl ?_
    refine r_iload_n hX dX1_weight_1 rfl ?_
    refine r_iconst hX (nI 1) dX1_weight_2 rfl ?_
    refine r_isub hX dX1_weight_3 ?_
    refine r_max hX dX1_weight_4 cb_X1_17 ⟨Nat.le_of_ble_eq_true rfl, Nat.le_of_ble_eq_true rfl⟩ ⟨Nat.le_of_ble_eq_true rfl, Nat.le_of_ble_eq_true rfl⟩ (Nat.le_of_ble_eq_true rfl) (nI (p - 1)) (mxI_p (by omega)) ?_
    refine r_istore_n hX [(0, .int (nI 2)), (1, .int (nI p)), (2, .int (nI h)), (3, .int (nI (p - 1)))] dX1_weight_7 hN3 rfl ?_
    refine r_iload_n hX dX1_weight_8 rfl ?_
    refine r_tabInN (v := 2) hX 54 dX1_weight_9 (by decide) (by decide) (by decide) 45 rfl (by decide) ?_
    refine r_iload_n hX dX1_weight_54 rfl ?_
    exact r_ireturn hX hQ dX1_weight_55 ⟨Nat.le_of_ble_eq_true rfl, Nat.le_of_ble_eq_true rfl⟩ (PF.mk (by clear  hQ hX hX0 hN3 hl hD hnl; simp [wkN]; try grind))
  · skip
    refine r_iconst hX (nI 0) dX1_weight_0 rfl ?_
    refine r_iload_n hX dX1_weight_1 rfl ?_
    refine r_iconst hX (nI 1) dX1_weight_2 rfl ?_
    refine r_isub hX dX1_weight_3 ?_
    refine r_max hX dX1_weight_4 cb_X1_17 ⟨Nat.le_of_ble_eq_true rfl, Nat.le_of_ble_eq_true rfl⟩ ⟨Nat.le_of_ble_eq_true rfl, Nat.le_of_ble_eq_true rfl⟩ (Nat.le_of_ble_eq_true rfl) (nI (p - 1)) (mxI_p (by omega)) ?_
    refine r_istore_n hX [(0, .int (nI 3)), (1, .int (nI p)), (2, .int (nI h)), (3, .int (nI (p - 1)))] dX1_weight_7 hN3 rfl ?_
    refine r_iload_n hX dX1_weight_8 rfl ?_
    refine r_tabInN (v := 3) hX 48 dX1_weight_9 (by decide) (by decide) (by decide) 39 rfl (by decide) ?_
    refine r_iload_n hX dX1_weight_48 rfl ?_
    refine r_iconst hX (nI 1) dX1_weight_49 rfl ?_
    refine r_iaddN hX dX1_weight_50 ?_
    refine r_iconst hX (nI 2) dX1_weight_51 rfl ?_
    refine r_idivN hX dX1_weight_52 (by omega) (by decide) (by decide) ?_
    exact r_ireturn hX hQ dX1_weight_53 ⟨Nat.le_of_ble_eq_true rfl, Nat.le_of_ble_eq_true rfl⟩ (PF.mk (by clear  hQ hX hX0 hN3 hl hD hnl; simp [wkN]; try grind))
  · skip
    refine r_iconst hX (nI 0) dX1_weight_0 rfl ?_
    refine r_iload_n hX dX1_weight_1 rfl ?_
    refine r_iconst hX (nI 1) dX1_weight_2 rfl ?_
    refine r_isub hX dX1_weight_3 ?_
    refine r_max hX dX1_weight_4 cb_X1_17 ⟨Nat.le_of_ble_eq_true rfl, Nat.le_of_ble_eq_true rfl⟩ ⟨Nat.le_of_ble_eq_true rfl, Nat.le_of_ble_eq_true rfl⟩ (Nat.le_of_ble_eq_true rfl) (nI (p - 1)) (mxI_p (by omega)) ?_
    refine r_istore_n hX [(0, .int (nI 4)), (1, .int (nI p)), (2, .int (nI h)), (3, .int (nI (p - 1)))] dX1_weight_7 hN3 rfl ?_
    refine r_iload_n hX dX1_weight_8 rfl ?_
    refine r_tabInN (v := 4) hX 56 dX1_weight_9 (by decide) (by decide) (by decide) 47 rfl (by decide) ?_
    refine r_iload_n hX dX1_weight_56 rfl ?_
    refine r_iconst hX (nI 2) dX1_weight_57 rfl ?_
    refine r_iremN hX dX1_weight_58 (by omega) (by decide) (by decide) ?_
    refine r_ifN_ne hX dX1_weight_59 (by omega) (fun c1 => ?_) (fun c1 => ?_)
    · skip
      refine r_iconst hX (nI 0) dX1_weight_66 rfl ?_
      exact r_ireturn hX hQ dX1_weight_67 ⟨Nat.le_of_ble_eq_true rfl, Nat.le_of_ble_eq_true rfl⟩ (PF.mk (by clear  hQ hX hX0 hN3 hl hD hnl; simp [wkN]; try grind))
    · skip
      refine r_iload_n hX dX1_weight_62 rfl ?_
      refine r_goto hX dX1_weight_63 ?_
      exact r_ireturn hX hQ dX1_weight_67 ⟨Nat.le_of_ble_eq_true rfl, Nat.le_of_ble_eq_true rfl⟩ (PF.mk (by clear  hQ hX hX0 hN3 hl hD hnl; simp [wkN]; try grind))
  · skip
    refine r_iconst hX (nI 0) dX1_weight_0 rfl ?_
    refine r_iload_n hX dX1_weight_1 rfl ?_
    refine r_iconst hX (nI 1) dX1_weight_2 rfl ?_
    refine r_isub hX dX1_weight_3 ?_
    refine r_max hX dX1_weight_4 cb_X1_17 ⟨Nat.le_of_ble_eq_true rfl, Nat.le_of_ble_eq_true rfl⟩ ⟨Nat.le_of_ble_eq_true rfl, Nat.le_of_ble_eq_true rfl⟩ (Nat.le_of_ble_eq_true rfl) (nI (p - 1)) (mxI_p (by omega)) ?_
    refine r_istore_n hX [(0, .int (nI 5)), (1, .int (nI p)), (2, .int (nI h)), (3, .int (nI (p - 1)))] dX1_weight_7 hN3 rfl ?_
    refine r_iload_n hX dX1_weight_8 rfl ?_
    refine r_tabInN (v := 5) hX 68 dX1_weight_9 (by decide) (by decide) (by decide) 59 rfl (by decide) ?_
    refine r_iconst hX (nI 0) dX1_weight_68 rfl ?_
    exact r_ireturn hX hQ dX1_weight_69 ⟨Nat.le_of_ble_eq_true rfl, Nat.le_of_ble_eq_true rfl⟩ (PF.mk (by clear  hQ hX hX0 hN3 hl hD hnl; simp [wkN]; try grind))
