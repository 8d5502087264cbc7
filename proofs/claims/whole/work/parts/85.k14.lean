set_option maxHeartbeats 4000000 in
set_option maxRecDepth 100000 in
theorem c_X6_take {l : Launch} {D : Ds} {L : La}  (hA : CAt L) (σ : Me) (P : Tp) (hP : RTc σ P) (x : Int32) (h96 : P.1 + 4 ≤ 96) : Ct l yX6_take cX6_take 3 none { frames := 0, cells := 0, slots := 0, locals := 0 } D L σ [.ref (L.1 103), .int x] (PV L (fun σ2 => RTc σ2 (tkP P x) ∧ Ex pTc σ σ2)) := by
  refine Ct.of (by decide) (Nat.le_of_ble_eq_true rfl) ?_
  intro X hl hD hnl hX0 hQ
  have hX : Ok X cX6_take RX6 "take" { frames := 0, cells := 0, slots := 0, locals := 0 } none := hX0
  have hN2 : 2 < xn X := by rw [hnl]; decide
  show At X L σ 0 0 [(0, .ref (L.1 103)), (1, .int x)] 0 []
  refine r_bipush hX (nI 24) dX6_take_0 rfl ?_
  refine r_istore_n hX [(0, .ref (L.1 103)), (1, .int x), (2, .int (nI 24))] dX6_take_2 hN2 rfl ?_
  refine r_iload_n hX dX6_take_3 rfl ?_
  refine r_ifN_lt hX dX6_take_4 (by decide) ?_
  refine r_aload_n hX dX6_take_7 rfl ?_
  refine r_getIV hX dX6_take_8 fl_X6_15 (hA.1 103 (5, 0) rfl) rfl (nI P.1) hP.1 ?_
  refine r_bipush hX (nI 96) dX6_take_11 rfl ?_
  refine r_icmpN_ge hX dX6_take_13 (by omega) (by decide) (fun c1 => absurd c1 (by omega)) (fun c1 => ?_)
  refine r_aload_n hX dX6_take_16 rfl ?_
  refine r_getR hX dX6_take_17 fl_X6_9 (hA.1 103 (5, 0) rfl) rfl (hA.2.1 103 0 104 rfl) ?_
  refine r_aload_n hX dX6_take_20 rfl ?_
  refine r_getIV hX dX6_take_21 fl_X6_15 (hA.1 103 (5, 0) rfl) rfl (nI P.1) hP.1 ?_
  refine r_iload_n hX dX6_take_24 rfl ?_
  refine r_iload_n hX dX6_take_25 rfl ?_
  refine r_ishr hX dX6_take_26 ?_
  refine r_i2b hX dX6_take_27 ?_
  refine r_bastN hX dX6_take_28 (hA.1 104 (11, 96) rfl) (by decide) (by omega) ?_
  refine r_aload_n hX dX6_take_29 rfl ?_
  refine r_dup hX dX6_take_30 rfl ?_
  refine r_getIV hX dX6_take_31 fl_X6_15 (hA.1 103 (5, 0) rfl) rfl (nI P.1) (by rw [up_n (by omega)]; exact hP.1) ?_
  refine r_iconst hX (nI 1) dX6_take_34 rfl ?_
  refine r_iaddN hX dX6_take_35 ?_
  refine r_putI hX dX6_take_36 fl_X6_15 (hA.1 103 (5, 0) rfl) rfl rfl rfl rfl ?_
  refine r_iinc hX (nI 16) [(0, .ref (L.1 103)), (1, .int x), (2, .int (nI 16))] dX6_take_39 rfl (by decide) hN2 rfl ?_
  refine r_goto hX dX6_take_42 ?_
  refine r_iload_n hX dX6_take_3 rfl ?_
  refine r_ifN_lt hX dX6_take_4 (by decide) ?_
  refine r_aload_n hX dX6_take_7 rfl ?_
  refine r_getIV hX dX6_take_8 fl_X6_15 (hA.1 103 (5, 0) rfl) rfl (nI (P.1 + 1)) up_s ?_
  refine r_bipush hX (nI 96) dX6_take_11 rfl ?_
  refine r_icmpN_ge hX dX6_take_13 (by omega) (by decide) (fun c2 => absurd c2 (by omega)) (fun c2 => ?_)
  refine r_aload_n hX dX6_take_16 rfl ?_
  refine r_getR hX dX6_take_17 fl_X6_9 (hA.1 103 (5, 0) rfl) rfl (hA.2.1 103 0 104 rfl) ?_
  refine r_aload_n hX dX6_take_20 rfl ?_
  refine r_getIV hX dX6_take_21 fl_X6_15 (hA.1 103 (5, 0) rfl) rfl (nI (P.1 + 1)) up_s ?_
  refine r_iload_n hX dX6_take_24 rfl ?_
  refine r_iload_n hX dX6_take_25 rfl ?_
  refine r_ishr hX dX6_take_26 ?_
  refine r_i2b hX dX6_take_27 ?_
  refine r_bastN hX dX6_take_28 (hA.1 104 (11, 96) rfl) (by decide) (by omega) ?_
  refine r_aload_n hX dX6_take_29 rfl ?_
  refine r_dup hX dX6_take_30 rfl ?_
  refine r_getIV hX dX6_take_31 fl_X6_15 (hA.1 103 (5, 0) rfl) rfl (nI (P.1 + 1)) (by rw [up_n (by omega), up_s]) ?_
  refine r_iconst hX (nI 1) dX6_take_34 rfl ?_
  refine r_iaddN hX dX6_take_35 ?_
  refine r_putI hX dX6_take_36 fl_X6_15 (hA.1 103 (5, 0) rfl) rfl rfl rfl rfl ?_
  refine r_iinc hX (nI 8) [(0, .ref (L.1 103)), (1, .int x), (2, .int (nI 8))] dX6_take_39 rfl (by decide) hN2 rfl ?_
  refine r_goto hX dX6_take_42 ?_
  refine r_iload_n hX dX6_take_3 rfl ?_
  refine r_ifN_lt hX dX6_take_4 (by decide) ?_
  refine r_aload_n hX dX6_take_7 rfl ?_
  refine r_getIV hX dX6_take_8 fl_X6_15 (hA.1 103 (5, 0) rfl) rfl (nI (P.1 + 1 + 1)) up_s ?_
  refine r_bipush hX (nI 96) dX6_take_11 rfl ?_
  refine r_icmpN_ge hX dX6_take_13 (by omega) (by decide) (fun c3 => absurd c3 (by omega)) (fun c3 => ?_)
  refine r_aload_n hX dX6_take_16 rfl ?_
  refine r_getR hX dX6_take_17 fl_X6_9 (hA.1 103 (5, 0) rfl) rfl (hA.2.1 103 0 104 rfl) ?_
  refine r_aload_n hX dX6_take_20 rfl ?_
  refine r_getIV hX dX6_take_21 fl_X6_15 (hA.1 103 (5, 0) rfl) rfl (nI (P.1 + 1 + 1)) up_s ?_
  refine r_iload_n hX dX6_take_24 rfl ?_
  refine r_iload_n hX dX6_take_25 rfl ?_
  refine r_ishr hX dX6_take_26 ?_
  refine r_i2b hX dX6_take_27 ?_
  refine r_bastN hX dX6_take_28 (hA.1 104 (11, 96) rfl) (by decide) (by omega) ?_
  refine r_aload_n hX dX6_take_29 rfl ?_
  refine r_dup hX dX6_take_30 rfl ?_
  refine r_getIV hX dX6_take_31 fl_X6_15 (hA.1 103 (5, 0) rfl) rfl (nI (P.1 + 1 + 1)) (by rw [up_n (by omega), up_s]) ?_
  refine r_iconst hX (nI 1) dX6_take_34 rfl ?_
  refine r_iaddN hX dX6_take_35 ?_
  refine r_putI hX dX6_take_36 fl_X6_15 (hA.1 103 (5, 0) rfl) rfl rfl rfl rfl ?_
  refine r_iinc hX (nI 0) [(0, .ref (L.1 103)), (1, .int x), (2, .int (nI 0))] dX6_take_39 rfl (by decide) hN2 rfl ?_
  refine r_goto hX dX6_take_42 ?_
  refine r_iload_n hX dX6_take_3 rfl ?_
  refine r_ifN_lt hX dX6_take_4 (by decide) ?_
  refine r_aload_n hX dX6_take_7 rfl ?_
  refine r_getIV hX dX6_take_8 fl_X6_15 (hA.1 103 (5, 0) rfl) rfl (nI (P.1 + 1 + 1 + 1)) up_s ?_
  refine r_bipush hX (nI 96) dX6_take_11 rfl ?_
  refine r_icmpN_ge hX dX6_take_13 (by omega) (by decide) (fun c4 => absurd c4 (by omega)) (fun c4 => ?_)
  refine r_aload_n hX dX6_take_16 rfl ?_
  refine r_getR hX dX6_take_17 fl_X6_9 (hA.1 103 (5, 0) rfl) rfl (hA.2.1 103 0 104 rfl) ?_
  refine r_aload_n hX dX6_take_20 rfl ?_
  refine r_getIV hX dX6_take_21 fl_X6_15 (hA.1 103 (5, 0) rfl) rfl (nI (P.1 + 1 + 1 + 1)) up_s ?_
  refine r_iload_n hX dX6_take_24 rfl ?_
  refine r_iload_n hX dX6_take_25 rfl ?_
  refine r_ishr hX dX6_take_26 ?_
  refine r_i2b hX dX6_take_27 ?_
  refine r_bastN hX dX6_take_28 (hA.1 104 (11, 96) rfl) (by decide) (by omega) ?_
  refine r_aload_n hX dX6_take_29 rfl ?_
  refine r_dup hX dX6_take_30 rfl ?_
  refine r_getIV hX dX6_take_31 fl_X6_15 (hA.1 103 (5, 0) rfl) rfl (nI (P.1 + 1 + 1 + 1)) (by rw [up_n (by omega), up_s]) ?_
  refine r_iconst hX (nI 1) dX6_take_34 rfl ?_
  refine r_iaddN hX dX6_take_35 ?_
  refine r_putI hX dX6_take_36 fl_X6_15 (hA.1 103 (5, 0) rfl) rfl rfl rfl rfl ?_
  refine r_iinc hX ((-8)) [(0, .ref (L.1 103)), (1, .int x), (2, .int (-8))] dX6_take_39 rfl (by decide) hN2 rfl ?_
  refine r_goto hX dX6_take_42 ?_
  refine r_iload_n hX dX6_take_3 rfl ?_
  refine r_if_lt hX dX6_take_4 (fun c5 => ?_) (fun c5 => absurd c5 (by decide))
  exact r_return hX hQ dX6_take_45 ⟨Nat.le_of_ble_eq_true rfl, Nat.le_of_ble_eq_true rfl⟩ (PV.mk ⟨tk_fin hP h96 up_s (show (up (up (up (up (up (up (up (up σ 104 P.1 (((x >>> ((nI 24) &&& 31)).toInt8.toInt32).toInt8.toInt32)) 103 1 (nI (P.1 + 1))) 104 (P.1 + 1) (((x >>> ((nI 16) &&& 31)).toInt8.toInt32).toInt8.toInt32)) 103 1 (nI (P.1 + 1 + 1))) 104 (P.1 + 1 + 1) (((x >>> ((nI 8) &&& 31)).toInt8.toInt32).toInt8.toInt32)) 103 1 (nI (P.1 + 1 + 1 + 1))) 104 (P.1 + 1 + 1 + 1) (((x >>> ((nI 0) &&& 31)).toInt8.toInt32).toInt8.toInt32)) 103 1 (nI (P.1 + 1 + 1 + 1 + 1))) 104 (P.1) = _ from Eq.trans (b := ((x >>> ((nI 24) &&& 31)).toInt8.toInt32).toInt8.toInt32) (by rw [up_n (by omega), up_n (by omega), up_n (by omega), up_n (by omega), up_n (by omega), up_n (by omega), up_n (by omega), up_s]) ((i8_2 _).trans (sb_byN x 0))) (show (up (up (up (up (up (up (up (up σ 104 P.1 (((x >>> ((nI 24) &&& 31)).toInt8.toInt32).toInt8.toInt32)) 103 1 (nI (P.1 + 1))) 104 (P.1 + 1) (((x >>> ((nI 16) &&& 31)).toInt8.toInt32).toInt8.toInt32)) 103 1 (nI (P.1 + 1 + 1))) 104 (P.1 + 1 + 1) (((x >>> ((nI 8) &&& 31)).toInt8.toInt32).toInt8.toInt32)) 103 1 (nI (P.1 + 1 + 1 + 1))) 104 (P.1 + 1 + 1 + 1) (((x >>> ((nI 0) &&& 31)).toInt8.toInt32).toInt8.toInt32)) 103 1 (nI (P.1 + 1 + 1 + 1 + 1))) 104 (P.1 + 1) = _ from Eq.trans (b := ((x >>> ((nI 16) &&& 31)).toInt8.toInt32).toInt8.toInt32) (by rw [up_n (by omega), up_n (by omega), up_n (by omega), up_n (by omega), up_n (by omega), up_s]) ((i8_2 _).trans (sb_byN x 1))) (show (up (up (up (up (up (up (up (up σ 104 P.1 (((x >>> ((nI 24) &&& 31)).toInt8.toInt32).toInt8.toInt32)) 103 1 (nI (P.1 + 1))) 104 (P.1 + 1) (((x >>> ((nI 16) &&& 31)).toInt8.toInt32).toInt8.toInt32)) 103 1 (nI (P.1 + 1 + 1))) 104 (P.1 + 1 + 1) (((x >>> ((nI 8) &&& 31)).toInt8.toInt32).toInt8.toInt32)) 103 1 (nI (P.1 + 1 + 1 + 1))) 104 (P.1 + 1 + 1 + 1) (((x >>> ((nI 0) &&& 31)).toInt8.toInt32).toInt8.toInt32)) 103 1 (nI (P.1 + 1 + 1 + 1 + 1))) 104 (P.1 + 1 + 1) = _ from Eq.trans (b := ((x >>> ((nI 8) &&& 31)).toInt8.toInt32).toInt8.toInt32) (by rw [up_n (by omega), up_n (by omega), up_n (by omega), up_s]) ((i8_2 _).trans (sb_byN x 2))) (show (up (up (up (up (up (up (up (up σ 104 P.1 (((x >>> ((nI 24) &&& 31)).toInt8.toInt32).toInt8.toInt32)) 103 1 (nI (P.1 + 1))) 104 (P.1 + 1) (((x >>> ((nI 16) &&& 31)).toInt8.toInt32).toInt8.toInt32)) 103 1 (nI (P.1 + 1 + 1))) 104 (P.1 + 1 + 1) (((x >>> ((nI 8) &&& 31)).toInt8.toInt32).toInt8.toInt32)) 103 1 (nI (P.1 + 1 + 1 + 1))) 104 (P.1 + 1 + 1 + 1) (((x >>> ((nI 0) &&& 31)).toInt8.toInt32).toInt8.toInt32)) 103 1 (nI (P.1 + 1 + 1 + 1 + 1))) 104 (P.1 + 1 + 1 + 1) = _ from Eq.trans (b := ((x >>> ((nI 0) &&& 31)).toInt8.toInt32).toInt8.toInt32) (by rw [up_n (by omega), up_s]) ((i8_2 _).trans (sb_byN x 3))) (fun k hk => by rw [up_n (by omega), up_n (by omega), up_n (by omega), up_n (by omega), up_n (by omega), up_n (by omega), up_n (by omega), up_n (by omega)]), Ex.up (Ex.up (Ex.up (Ex.up (Ex.up (Ex.up (Ex.up (Ex.up (Ex.rf σ) rfl) rfl) rfl) rfl) rfl) rfl) rfl) rfl⟩)

set_option maxHeartbeats 4000000 in
set_option maxRecDepth 100000 in
theorem c_X9_feed {l : Launch} {D : Ds} {L : La}  (hA : CAt L) (σ : Me) (P : Tp) (hP : RTc σ P) (a b c : Int32) : Ct l yX9_feed cX9_feed 4 (some .int) { frames := 1, cells := 0, slots := 0, locals := 22 } D L σ [.ref (L.1 100), .int a, .int b, .int c] (PI L (fun r σ2 => r = (oFeed P a b c).1 ∧ RTc σ2 (oFeed P a b c).2 ∧ Ex pTc σ σ2)) := by
  refine Ct.of (by decide) (Nat.le_of_ble_eq_true rfl) ?_
  intro X hl hD hnl hX0 hQ
  have hX : Ok X cX9_feed RX9 "feed" { frames := 1, cells := 0, slots := 0, locals := 22 } (some .int) := hX0
  have hP96 := hP.2.1
  show At X L σ 0 0 [(0, .ref (L.1 100)), (1, .int a), (2, .int b), (3, .int c)] 0 []
  refine r_aload_n hX dX9_feed_0 rfl ?_
  refine r_getR hX dX9_feed_1 fl_X9_26 (hA.1 100 (8, 0) rfl) rfl (hA.2.1 100 2 103 rfl) ?_
  refine r_getIV hX dX9_feed_4 fl_X9_246 (hA.1 103 (5, 0) rfl) rfl (nI P.1) hP.1 ?_
  refine r_bipush hX (nI 12) dX9_feed_7 rfl ?_
  refine r_iaddN hX dX9_feed_9 ?_
  refine r_bipush hX (nI 96) dX9_feed_10 rfl ?_
  refine r_icmpN_le hX dX9_feed_12 (by omega) (by decide) (fun c1 => ?_) (fun c1 => ?_)
  · skip
    refine r_aload_n hX dX9_feed_18 rfl ?_
    refine r_getR hX dX9_feed_19 fl_X9_26 (hA.1 100 (8, 0) rfl) rfl (hA.2.1 100 2 103 rfl) ?_
    refine r_iload_n hX dX9_feed_22 rfl ?_
    refine r_callVV (As := [.int a]) (rest := []) hX (c_X6_take hA σ P hP a (show P.1 + 4 ≤ 96 by first | omega | (simp only [tkP]; omega))) dX9_feed_23 cb_X9_247 (hA.1 103 (5, 0) rfl) rfl rfl ⟨Nat.le_of_ble_eq_true rfl, Nat.le_of_ble_eq_true rfl⟩ ⟨Nat.le_of_ble_eq_true rfl, Nat.le_of_ble_eq_true rfl⟩ (Nat.le_of_ble_eq_true rfl) (fun σ2 h3 => ?_)
    obtain ⟨hp4, he5⟩ := h3
    refine r_aload_n hX dX9_feed_26 rfl ?_
    refine r_getR hX dX9_feed_27 fl_X9_26 (hA.1 100 (8, 0) rfl) rfl (hA.2.1 100 2 103 rfl) ?_
    refine r_iload_n hX dX9_feed_30 rfl ?_
    refine r_callVV (As := [.int b]) (rest := []) hX (c_X6_take hA σ2 (tkP P a) hp4 b (show (tkP P a).1 + 4 ≤ 96 by first | omega | (simp only [tkP]; omega))) dX9_feed_31 cb_X9_247 (hA.1 103 (5, 0) rfl) rfl rfl ⟨Nat.le_of_ble_eq_true rfl, Nat.le_of_ble_eq_true rfl⟩ ⟨Nat.le_of_ble_eq_true rfl, Nat.le_of_ble_eq_true rfl⟩ (Nat.le_of_ble_eq_true rfl) (fun σ6 h7 => ?_)
    obtain ⟨hp8, he9⟩ := h7
    refine r_aload_n hX dX9_feed_34 rfl ?_
    refine r_getR hX dX9_feed_35 fl_X9_26 (hA.1 100 (8, 0) rfl) rfl (hA.2.1 100 2 103 rfl) ?_
    refine r_iload_n hX dX9_feed_38 rfl ?_
    refine r_callVV (As := [.int c]) (rest := []) hX (c_X6_take hA σ6 (tkP (tkP P a) b) hp8 c (show (tkP (tkP P a) b).1 + 4 ≤ 96 by first | omega | (simp only [tkP]; omega))) dX9_feed_39 cb_X9_247 (hA.1 103 (5, 0) rfl) rfl rfl ⟨Nat.le_of_ble_eq_true rfl, Nat.le_of_ble_eq_true rfl⟩ ⟨Nat.le_of_ble_eq_true rfl, Nat.le_of_ble_eq_true rfl⟩ (Nat.le_of_ble_eq_true rfl) (fun σ10 h11 => ?_)
    obtain ⟨hp12, he13⟩ := h11
    refine r_aload_n hX dX9_feed_42 rfl ?_
    refine r_getR hX dX9_feed_43 fl_X9_26 (hA.1 100 (8, 0) rfl) rfl (hA.2.1 100 2 103 rfl) ?_
    refine r_getIV hX dX9_feed_46 fl_X9_246 (hA.1 103 (5, 0) rfl) rfl (nI (P.1 + 12)) hp12.1 ?_
    exact r_ireturn hX hQ dX9_feed_49 ⟨Nat.le_of_ble_eq_true rfl, Nat.le_of_ble_eq_true rfl⟩ (PI.mk (by rw [oFeed, if_pos (by omega)]; exact ⟨rfl, tkP_fd hp12, (Ex.tr (Ex.tr (Ex.tr (Ex.rf σ) he5) he9) he13)⟩))
  · skip
    refine r_ldc hX dX9_feed_15 ko_X9_242 ?_
    exact r_ireturn hX hQ dX9_feed_17 ⟨Nat.le_of_ble_eq_true rfl, Nat.le_of_ble_eq_true rfl⟩ (PI.mk (by rw [oFeed, if_neg (by omega)]; exact ⟨rfl, hP, Ex.rf σ⟩))

set_option maxHeartbeats 4000000 in
set_option maxRecDepth 100000 in
theorem c_X9_trim {l : Launch} {D : Ds} {L : La}  (hA : CAt L) (σ : Me) (P : Tp) (hP : RTc σ P) (n : Int32) : Ct l yX9_trim cX9_trim 2 (some .int) { frames := 1, cells := 0, slots := 0, locals := 22 } D L σ [.ref (L.1 100), .int n] (PI L (fun r σ2 => r = (oTrim P n).1 ∧ RTc σ2 (oTrim P n).2 ∧ Ex pTc σ σ2)) := by
  refine Ct.of (by decide) (Nat.le_of_ble_eq_true rfl) ?_
  intro X hl hD hnl hX0 hQ
  have hX : Ok X cX9_trim RX9 "trim" { frames := 1, cells := 0, slots := 0, locals := 22 } (some .int) := hX0
  have hP96 := hP.2.1
  show At X L σ 0 0 [(0, .ref (L.1 100)), (1, .int n)] 0 []
  refine r_iload_n hX dX9_trim_0 rfl ?_
  refine r_iconst hX (nI 0) dX9_trim_1 rfl ?_
  refine r_aload_n hX dX9_trim_2 rfl ?_
  refine r_getR hX dX9_trim_3 fl_X9_26 (hA.1 100 (8, 0) rfl) rfl (hA.2.1 100 2 103 rfl) ?_
  refine r_getIV hX dX9_trim_6 fl_X9_246 (hA.1 103 (5, 0) rfl) rfl (nI P.1) hP.1 ?_
  refine r_callSF (As := [.int n, .int (nI 0), .int (nI P.1)]) (rest := []) hX (c_X9_within σ n (nI 0) (nI P.1)) dX9_trim_9 cb_X9_67 rfl rfl ⟨Nat.le_of_ble_eq_true rfl, Nat.le_of_ble_eq_true rfl⟩ ⟨Nat.le_of_ble_eq_true rfl, Nat.le_of_ble_eq_true rfl⟩ (Nat.le_of_ble_eq_true rfl) ?_
  refine r_ifB_ne hX dX9_trim_12 (fun c1 => ?_) (fun c1 => ?_)
  · skip
    obtain ⟨q, hql, hq, rfl⟩ := inB_nat c1 (by decide) (by omega)
    refine r_aload_n hX dX9_trim_18 rfl ?_
    refine r_getR hX dX9_trim_19 fl_X9_26 (hA.1 100 (8, 0) rfl) rfl (hA.2.1 100 2 103 rfl) ?_
    refine r_iload_n hX dX9_trim_22 rfl ?_
    refine r_putI hX dX9_trim_23 fl_X9_246 (hA.1 103 (5, 0) rfl) rfl rfl rfl rfl ?_
    refine r_iload_n hX dX9_trim_26 rfl ?_
    exact r_ireturn hX hQ dX9_trim_27 ⟨Nat.le_of_ble_eq_true rfl, Nat.le_of_ble_eq_true rfl⟩ (PI.mk (by rw [oTrim, if_pos c1, nI_clamp (by omega)]; exact ⟨rfl, ⟨up_s, by show q ≤ 96; omega, fun k hk => by rw [up_n (by omega)]; exact hP.2.2 k (by have : k < q := hk; omega)⟩, Ex.up (Ex.rf σ) rfl⟩))
  · skip
    refine r_ldc hX dX9_trim_15 ko_X9_75 ?_
    exact r_ireturn hX hQ dX9_trim_17 ⟨Nat.le_of_ble_eq_true rfl, Nat.le_of_ble_eq_true rfl⟩ (PI.mk (by rw [oTrim, if_neg (by rw [c1]; decide)]; exact ⟨rfl, hP, Ex.rf σ⟩))

set_option maxHeartbeats 4000000 in
set_option maxRecDepth 100000 in
theorem c_J7_fill_53178 {l : Launch} {D : Ds} {L : La}  (σ : Me) (x n : Nat) (hx : L.2.1 x = some (10, n)) (hn : n < 2 ^ 31) (v : Int32) : Ct l yJ7_fill_53178 cJ7_fill_53178 4 none { frames := 0, cells := 0, slots := 0, locals := 0 } D L σ [.ref (L.1 x), .int v] (PV L (fun σ2 => (∀ i, i < n → σ2 x i = v) ∧ Of x σ σ2)) := by
  refine Ct.of (by decide) (Nat.le_of_ble_eq_true rfl) ?_
  intro X hl hD hnl hX0 hQ
  have hX : Ok X cJ7_fill_53178 RJ7 "fill" { frames := 0, cells := 0, slots := 0, locals := 0 } none := hX0
  have hN2 : 2 < xn X := by rw [hnl]; decide
  have hN3 : 3 < xn X := by rw [hnl]; decide
  show At X L σ 0 0 [(0, .ref (L.1 x)), (1, .int v)] 0 []
  refine r_iconst hX (nI 0) dJ7_fill_53178_0 rfl ?_
  refine r_istore_n hX [(0, .ref (L.1 x)), (1, .int v), (2, .int (nI 0))] dJ7_fill_53178_1 hN2 rfl ?_
  refine r_aload_n hX dJ7_fill_53178_2 rfl ?_
  refine r_alen hX dJ7_fill_53178_3 hx (by decide) (by decide) ?_
  refine r_istore_n hX [(0, .ref (L.1 x)), (1, .int v), (2, .int (nI 0)), (3, .int (nI n))] dJ7_fill_53178_4 hN3 rfl ?_
  have P1 : ∀ k, k ≤ n → ∀ (σk : Me) (hf : ∀ i, i < k → σk x i = v) (hO : Of x σ σk), At X L σk 0 0 [(0, .ref (L.1 x)), (1, .int v), (2, .int (nI k)), (3, .int (nI n))] 5 [] := by
    refine loopUp n ?_ ?_
    · skip
      intro σk hf hO
      refine r_iload_n hX dJ7_fill_53178_5 rfl ?_
      refine r_iload_n hX dJ7_fill_53178_6 rfl ?_
      refine r_icmpN_ge hX dJ7_fill_53178_7 (by omega) (by omega) (fun c2 => ?_) (fun c2 => absurd c2 (by omega))
      exact r_return hX hQ dJ7_fill_53178_20 ⟨Nat.le_of_ble_eq_true rfl, Nat.le_of_ble_eq_true rfl⟩ (PV.mk ⟨hf, hO⟩)
    · skip
      intro k hk ih3 σk hf hO
      refine r_iload_n hX dJ7_fill_53178_5 rfl ?_
      refine r_iload_n hX dJ7_fill_53178_6 rfl ?_
      refine r_icmpN_ge hX dJ7_fill_53178_7 (by omega) (by omega) (fun c4 => absurd c4 (by omega)) (fun c4 => ?_)
      refine r_aload_n hX dJ7_fill_53178_10 rfl ?_
      refine r_iload_n hX dJ7_fill_53178_11 rfl ?_
      refine r_iload_n hX dJ7_fill_53178_12 rfl ?_
      refine r_astN hX dJ7_fill_53178_13 hx (by omega) (by omega) ?_
      refine r_iincN (n := 1) hX [(0, .ref (L.1 x)), (1, .int v), (2, .int (nI (k + 1))), (3, .int (nI n))] dJ7_fill_53178_14 rfl hN2 rfl ?_
      refine r_goto hX dJ7_fill_53178_17 ?_
      exact At.to (ih3 _ (fun i hi => if e : i = k then (by rw [e, up_s]) else (by rw [up_n (by omega)]; exact hf i (by omega))) hO.up) rfl rfl rfl
  exact At.to (P1 0 (Nat.zero_le _) σ (fun i hi => absurd hi (Nat.not_lt_zero i)) (Of.rf σ)) rfl rfl rfl

set_option maxHeartbeats 4000000 in
set_option maxRecDepth 100000 in
theorem c_X4_isMissing {l : Launch} {D : Ds} {L : La}  (σ : Me) (s : Nat) (hs : SA L s) (o : Option Bool) (ho : σ s 0 = srI o) : Ct l yX4_isMissing cX4_isMissing 1 (some .boolean) { frames := 0, cells := 0, slots := 0, locals := 0 } D L σ [.ref (L.1 s)] (PF L σ (bI o.isNone)) := by
  refine Ct.of (by decide) (Nat.le_of_ble_eq_true rfl) ?_
  intro X hl hD hnl hX0 hQ
  have hX : Ok X cX4_isMissing RX4 "isMissing" { frames := 0, cells := 0, slots := 0, locals := 0 } (some .boolean) := hX0
  show At X L σ 0 0 [(0, .ref (L.1 s))] 0 []
  refine r_aload_n hX dX4_isMissing_0 rfl ?_
  refine r_getIV hX dX4_isMissing_1 fl_X4_11 hs.1 rfl (srI o) ho ?_
  refine r_iconst hX (-1) dX4_isMissing_4 rfl ?_
  refine r_icmp_ne hX dX4_isMissing_5 (fun c1 => ?_) (fun c1 => ?_)
  · skip
    refine r_iconst hX (nI 0) dX4_isMissing_12 rfl ?_
    exact r_zreturn hX hQ dX4_isMissing_13 ⟨Nat.le_of_ble_eq_true rfl, Nat.le_of_ble_eq_true rfl⟩ rfl (PF.mk (by rw [← mis_eq]; rw [decide_eq_false c1]; rfl))
  · skip
    refine r_iconst hX (nI 1) dX4_isMissing_8 rfl ?_
    refine r_goto hX dX4_isMissing_9 ?_
    exact r_zreturn hX hQ dX4_isMissing_13 ⟨Nat.le_of_ble_eq_true rfl, Nat.le_of_ble_eq_true rfl⟩ rfl (PF.mk (by rw [← mis_eq]; rw [decide_eq_true c1]; rfl))

set_option maxHeartbeats 4000000 in
set_option maxRecDepth 100000 in
theorem c_X4_become {l : Launch} {D : Ds} {L : La}  (σ : Me) (s : Nat) (hs : SA L s) (a n : Int32) : Ct l yX4_become cX4_become 3 none { frames := 1, cells := 0, slots := 0, locals := 23 } D L σ [.ref (L.1 s), .int a, .int n] (PV L (fun σ2 => σ2 s 0 = a ∧ σ2 s 1 = n ∧ (∀ i, i < 24 → σ2 (s + 1) i = nI 0) ∧ ∀ c i, c ≠ s → c ≠ s + 1 → σ2 c i = σ c i)) := by
  refine Ct.of (by decide) (Nat.le_of_ble_eq_true rfl) ?_
  intro X hl hD hnl hX0 hQ
  have hX : Ok X cX4_become RX4 "become" { frames := 1, cells := 0, slots := 0, locals := 23 } none := hX0
  show At X L σ 0 0 [(0, .ref (L.1 s)), (1, .int a), (2, .int n)] 0 []
  refine r_aload_n hX dX4_become_0 rfl ?_
  refine r_iload_n hX dX4_become_1 rfl ?_
  refine r_putI hX dX4_become_2 fl_X4_11 hs.1 rfl rfl rfl rfl ?_
  refine r_aload_n hX dX4_become_5 rfl ?_
  refine r_iload_n hX dX4_become_6 rfl ?_
  refine r_putI hX dX4_become_7 fl_X4_15 hs.1 rfl rfl rfl rfl ?_
  refine r_aload_n hX dX4_become_10 rfl ?_
  refine r_getR hX dX4_become_11 fl_X4_18 hs.1 rfl hs.2.2 ?_
  refine r_iconst hX (nI 0) dX4_become_14 rfl ?_
  refine r_callSV (As := [.ref (L.1 (s + 1)), .int (nI 0)]) (rest := []) hX (c_J7_fill_53178 (up (up σ s 0 a) s 1 n) (s + 1) 24 hs.2.1 (by decide) (nI 0)) dX4_become_15 cb_X4_22 rfl rfl ⟨Nat.le_of_ble_eq_true rfl, Nat.le_of_ble_eq_true rfl⟩ ⟨Nat.le_of_ble_eq_true rfl, Nat.le_of_ble_eq_true rfl⟩ (Nat.le_of_ble_eq_true rfl) (fun σ1 h2 => ?_)
  obtain ⟨hf3, hO4⟩ := h2
  exact r_return hX hQ dX4_become_18 ⟨Nat.le_of_ble_eq_true rfl, Nat.le_of_ble_eq_true rfl⟩ (PV.mk ⟨(hO4 s 0 (by omega)).trans ((up_n (by omega)).trans up_s), (hO4 s 1 (by omega)).trans up_s, hf3, fun c i h1 h2 => (hO4 c i h2).trans ((up_n (by omega)).trans (up_n (by omega)))⟩)

set_option maxHeartbeats 4000000 in
set_option maxRecDepth 100000 in
theorem c_X4_has {l : Launch} {D : Ds} {L : La}  (hN : NL D) (σ : Me) (s : Nat) (hs : SA L s) (z : Nat) (hz : σ s 1 = nI z) (p : Int32) : Ct l yX4_has cX4_has 2 (some .boolean) { frames := 1, cells := 0, slots := 0, locals := 22 } D L σ [.ref (L.1 s), .int p] (PF L σ (bI (isB p z))) := by
  refine Ct.of (by decide) (Nat.le_of_ble_eq_true rfl) ?_
  intro X hl hD hnl hX0 hQ
  have hX : Ok X cX4_has RX4 "has" { frames := 1, cells := 0, slots := 0, locals := 22 } (some .boolean) := hX0
  show At X L σ 0 0 [(0, .ref (L.1 s)), (1, .int p)] 0 []
  refine r_iload_n hX dX4_has_0 rfl ?_
  refine r_iconst hX (nI 0) dX4_has_1 rfl ?_
  refine r_aload_n hX dX4_has_2 rfl ?_
  refine r_getIV hX dX4_has_3 fl_X4_15 hs.1 rfl (nI z) hz ?_
  refine r_iconst hX (nI 1) dX4_has_6 rfl ?_
  refine r_isub hX dX4_has_7 ?_
  refine r_callSNF (As := [.int p, .int (nI 0), .int ((nI z) - (nI 1))]) (rest := []) hX (hN (xs X) (by rw [← hD]; exact hX.2.2.2.2.2.1.2.2.1) _ (List.mem_of_getElem? (i := 6) rfl)) (c_X9_within σ p (nI 0) ((nI z) - (nI 1))) dX4_has_8 cn_X9_within rfl rfl ⟨Nat.le_of_ble_eq_true rfl, Nat.le_of_ble_eq_true rfl⟩ ⟨Nat.le_of_ble_eq_true rfl, Nat.le_of_ble_eq_true rfl⟩ (Nat.le_of_ble_eq_true rfl) ?_
  exact r_zreturn hX hQ dX4_has_11 ⟨Nat.le_of_ble_eq_true rfl, Nat.le_of_ble_eq_true rfl⟩ (nar_bI _) (PF.mk rfl)

set_option maxHeartbeats 4000000 in
set_option maxRecDepth 100000 in
theorem c_X4_hasRun {l : Launch} {D : Ds} {L : La}  (hN : NL D) (σ : Me) (s : Nat) (hs : SA L s) (z : Nat) (hz : σ s 1 = nI z) (p m : Int32) : Ct l yX4_hasRun cX4_hasRun 3 (some .boolean) { frames := 1, cells := 0, slots := 0, locals := 22 } D L σ [.ref (L.1 s), .int p, .int m] (PF L σ (bI (inB p (nI 0) (nI z) && decide (m ≤ nI z - p)))) := by
  refine Ct.of (by decide) (Nat.le_of_ble_eq_true rfl) ?_
  intro X hl hD hnl hX0 hQ
  have hX : Ok X cX4_hasRun RX4 "hasRun" { frames := 1, cells := 0, slots := 0, locals := 22 } (some .boolean) := hX0
  show At X L σ 0 0 [(0, .ref (L.1 s)), (1, .int p), (2, .int m)] 0 []
  refine r_iload_n hX dX4_hasRun_0 rfl ?_
  refine r_iconst hX (nI 0) dX4_hasRun_1 rfl ?_
  refine r_aload_n hX dX4_hasRun_2 rfl ?_
  refine r_getIV hX dX4_hasRun_3 fl_X4_15 hs.1 rfl (nI z) hz ?_
  refine r_callSNF (As := [.int p, .int (nI 0), .int (nI z)]) (rest := []) hX (hN (xs X) (by rw [← hD]; exact hX.2.2.2.2.2.1.2.2.1) _ (List.mem_of_getElem? (i := 6) rfl)) (c_X9_within σ p (nI 0) (nI z)) dX4_hasRun_6 cn_X9_within rfl rfl ⟨Nat.le_of_ble_eq_true rfl, Nat.le_of_ble_eq_true rfl⟩ ⟨Nat.le_of_ble_eq_true rfl, Nat.le_of_ble_eq_true rfl⟩ (Nat.le_of_ble_eq_true rfl) ?_
  refine r_ifB_eq hX dX4_hasRun_9 (fun c1 => ?_) (fun c1 => ?_)
  · skip
    refine r_iconst hX (nI 0) dX4_hasRun_26 rfl ?_
    exact r_zreturn hX hQ dX4_hasRun_27 ⟨Nat.le_of_ble_eq_true rfl, Nat.le_of_ble_eq_true rfl⟩ rfl (PF.mk (by clear  hQ hX hX0  hl hD hnl; grind [bI]))
  · skip
    refine r_iload_n hX dX4_hasRun_12 rfl ?_
    refine r_aload_n hX dX4_hasRun_13 rfl ?_
    refine r_getIV hX dX4_hasRun_14 fl_X4_15 hs.1 rfl (nI z) hz ?_
    refine r_iload_n hX dX4_hasRun_17 rfl ?_
    refine r_isub hX dX4_hasRun_18 ?_
    refine r_icmp_gt hX dX4_hasRun_19 (fun c2 => ?_) (fun c2 => ?_)
    · skip
      refine r_iconst hX (nI 0) dX4_hasRun_26 rfl ?_
      exact r_zreturn hX hQ dX4_hasRun_27 ⟨Nat.le_of_ble_eq_true rfl, Nat.le_of_ble_eq_true rfl⟩ rfl (PF.mk (by clear  hQ hX hX0  hl hD hnl; grind [bI]))
    · skip
      refine r_iconst hX (nI 1) dX4_hasRun_22 rfl ?_
      refine r_goto hX dX4_hasRun_23 ?_
      exact r_zreturn hX hQ dX4_hasRun_27 ⟨Nat.le_of_ble_eq_true rfl, Nat.le_of_ble_eq_true rfl⟩ rfl (PF.mk (by clear  hQ hX hX0  hl hD hnl; grind [bI]))

set_option maxHeartbeats 4000000 in
set_option maxRecDepth 100000 in
theorem c_X9_momentsOn {l : Launch} {D : Ds} {L : La}  (σ : Me) (s : Nat) (hs : SA L s) (z : Nat) (f : Nat → Int32) (hz : σ s 1 = nI z) (hz24 : z ≤ 24) (hf : ∀ i, i < 24 → σ (s + 1) i = f i) : Ct l yX9_momentsOn cX9_momentsOn 2 (some .int) { frames := 3, cells := 0, slots := 0, locals := 62 } D L σ [.ref (L.1 s)] (PF L σ (nI (pfx (fun i => atB (f i)) z))) := by
  refine Ct.of (by decide) (Nat.le_of_ble_eq_true rfl) ?_
  intro X hl hD hnl hX0 hQ
  have hX : Ok X cX9_momentsOn RX9 "momentsOn" { frames := 3, cells := 0, slots := 0, locals := 62 } (some .int) := hX0
  have hN1 : 1 < xn X := by rw [hnl]; decide
  show At X L σ 0 0 [(0, .ref (L.1 s))] 0 []
  refine r_iconst hX (nI 0) dX9_momentsOn_0 rfl ?_
  refine r_istore_n hX [(0, .ref (L.1 s)), (1, .int (nI 0))] dX9_momentsOn_1 hN1 rfl ?_
  have P1 : ∀ k, k ≤ z → ∀ (hpk : pfx (fun i => atB (f i)) k = k), At X L σ 0 0 [(0, .ref (L.1 s)), (1, .int (nI k))] 2 [] := by
    refine loopUp z ?_ ?_
    · skip
      intro hpk
      refine r_iload_n hX dX9_momentsOn_2 rfl ?_
      refine r_aload_n hX dX9_momentsOn_3 rfl ?_
      refine r_getIV hX dX9_momentsOn_4 fl_X9_308 hs.1 rfl (nI z) hz ?_
      refine r_icmpN_ge hX dX9_momentsOn_7 (by omega) (by omega) (fun c2 => ?_) (fun c2 => absurd c2 (by omega))
      refine r_iload_n hX dX9_momentsOn_28 rfl ?_
      exact r_ireturn hX hQ dX9_momentsOn_29 ⟨Nat.le_of_ble_eq_true rfl, Nat.le_of_ble_eq_true rfl⟩ (PF.mk (by rw [hpk]))
    · skip
      intro k hk ih3 hpk
      refine r_iload_n hX dX9_momentsOn_2 rfl ?_
      refine r_aload_n hX dX9_momentsOn_3 rfl ?_
      refine r_getIV hX dX9_momentsOn_4 fl_X9_308 hs.1 rfl (nI z) hz ?_
      refine r_icmpN_ge hX dX9_momentsOn_7 (by omega) (by omega) (fun c4 => absurd c4 (by omega)) (fun c4 => ?_)
      refine r_aload_n hX dX9_momentsOn_10 rfl ?_
      refine r_getR hX dX9_momentsOn_11 fl_X9_299 hs.1 rfl hs.2.2 ?_
      refine r_iload_n hX dX9_momentsOn_14 rfl ?_
      refine r_aldN hX dX9_momentsOn_15 hs.2.1 (by decide) (by omega) (f k) (hf k (by omega)) ?_
      refine r_callSF (As := [.int (f k)]) (rest := []) hX (c_X9_isMoment σ (f k)) dX9_momentsOn_16 cb_X9_125 rfl rfl ⟨Nat.le_of_ble_eq_true rfl, Nat.le_of_ble_eq_true rfl⟩ ⟨Nat.le_of_ble_eq_true rfl, Nat.le_of_ble_eq_true rfl⟩ (Nat.le_of_ble_eq_true rfl) ?_
      refine r_ifB_eq hX dX9_momentsOn_19 (fun c5 => ?_) (fun c5 => ?_)
      · skip
        refine r_iload_n hX dX9_momentsOn_28 rfl ?_
        exact r_ireturn hX hQ dX9_momentsOn_29 ⟨Nat.le_of_ble_eq_true rfl, Nat.le_of_ble_eq_true rfl⟩ (PF.mk (by rw [pfx_no hpk c5 _ (Nat.le_of_lt hk)]))
      · skip
        refine r_iincN (n := 1) hX [(0, .ref (L.1 s)), (1, .int (nI (k + 1)))] dX9_momentsOn_22 rfl hN1 rfl ?_
        refine r_goto hX dX9_momentsOn_25 ?_
        exact At.to (ih3 (pfx_s hpk c5)) rfl rfl rfl
  exact At.to (P1 0 (Nat.zero_le _) rfl) rfl rfl rfl
