set_option maxHeartbeats 4000000 in
set_option maxRecDepth 100000 in
theorem c_X7_wordOf {l : Launch} {D : Ds} {L : La}  (J : Nat → Nat × Nat) (hJ : CW D J) (σ : Me) (k : Nat) (hk : k ≤ 2) : Ct l yX7_wordOf cX7_wordOf 1 (some (.object "java/lang/String")) { frames := 0, cells := 0, slots := 0, locals := 0 } D L σ [.int (nI k)] (PR L σ (.ref (J (0 + k)).1)) := by
  refine Ct.of (by decide) (Nat.le_of_ble_eq_true rfl) ?_
  intro X hl hD hnl hX0 hQ
  have hX : Ok X cX7_wordOf RX7 "wordOf" { frames := 0, cells := 0, slots := 0, locals := 0 } (some (.object "java/lang/String")) := hX0
  obtain ⟨j0, j1, j2, j3, j4, j5⟩ := hJ.2.2 (xs X) (by rw [← hD]; exact hX.2.2.2.2.2.1.2.2.1)
  show At X L σ 0 0 [(0, .int (nI k))] 0 []
  rcases (show k = 0 ∨ k = 1 ∨ k = 2 from (by omega)) with rfl | rfl | rfl
  · skip
    refine r_iload_n hX dX7_wordOf_0 rfl ?_
    refine r_ifN_ne hX dX7_wordOf_1 (by decide) (fun c1 => absurd c1 (by decide)) (fun c1 => ?_)
    refine r_ldcS hX j0 dX7_wordOf_4 ?_
    refine r_goto hX dX7_wordOf_6 ?_
    exact r_areturn hX hQ dX7_wordOf_21 ⟨Nat.le_of_ble_eq_true rfl, Nat.le_of_ble_eq_true rfl⟩ (Or.inl ⟨_, rfl⟩) (Or.inr ⟨_, rfl⟩) PR.mk
  · skip
    refine r_iload_n hX dX7_wordOf_0 rfl ?_
    refine r_ifN_ne hX dX7_wordOf_1 (by decide) (fun c2 => ?_) (fun c2 => absurd c2 (by decide))
    refine r_iload_n hX dX7_wordOf_9 rfl ?_
    refine r_iconst hX (nI 1) dX7_wordOf_10 rfl ?_
    refine r_icmpN_ne hX dX7_wordOf_11 (by decide) (by decide) (fun c3 => absurd c3 (by decide)) (fun c3 => ?_)
    refine r_ldcS hX j1 dX7_wordOf_14 ?_
    refine r_goto hX dX7_wordOf_16 ?_
    exact r_areturn hX hQ dX7_wordOf_21 ⟨Nat.le_of_ble_eq_true rfl, Nat.le_of_ble_eq_true rfl⟩ (Or.inl ⟨_, rfl⟩) (Or.inr ⟨_, rfl⟩) PR.mk
  · skip
    refine r_iload_n hX dX7_wordOf_0 rfl ?_
    refine r_ifN_ne hX dX7_wordOf_1 (by decide) (fun c4 => ?_) (fun c4 => absurd c4 (by decide))
    refine r_iload_n hX dX7_wordOf_9 rfl ?_
    refine r_iconst hX (nI 1) dX7_wordOf_10 rfl ?_
    refine r_icmpN_ne hX dX7_wordOf_11 (by decide) (by decide) (fun c5 => ?_) (fun c5 => absurd c5 (by decide))
    refine r_ldcS hX j2 dX7_wordOf_19 ?_
    exact r_areturn hX hQ dX7_wordOf_21 ⟨Nat.le_of_ble_eq_true rfl, Nat.le_of_ble_eq_true rfl⟩ (Or.inl ⟨_, rfl⟩) (Or.inr ⟨_, rfl⟩) PR.mk

set_option maxHeartbeats 4000000 in
set_option maxRecDepth 100000 in
theorem c_X7_namesOf {l : Launch} {D : Ds} {L : La}  (J : Nat → Nat × Nat) (hJ : CW D J) (σ : Me) (k : Nat) (hk : k ≤ 2) : Ct l yX7_namesOf cX7_namesOf 1 (some (.object "java/lang/String")) { frames := 0, cells := 0, slots := 0, locals := 0 } D L σ [.int (nI k)] (PR L σ (.ref (J (3 + k)).1)) := by
  refine Ct.of (by decide) (Nat.le_of_ble_eq_true rfl) ?_
  intro X hl hD hnl hX0 hQ
  have hX : Ok X cX7_namesOf RX7 "namesOf" { frames := 0, cells := 0, slots := 0, locals := 0 } (some (.object "java/lang/String")) := hX0
  obtain ⟨j0, j1, j2, j3, j4, j5⟩ := hJ.2.2 (xs X) (by rw [← hD]; exact hX.2.2.2.2.2.1.2.2.1)
  show At X L σ 0 0 [(0, .int (nI k))] 0 []
  rcases (show k = 0 ∨ k = 1 ∨ k = 2 from (by omega)) with rfl | rfl | rfl
  · skip
    refine r_iload_n hX dX7_namesOf_0 rfl ?_
    refine r_ifN_ne hX dX7_namesOf_1 (by decide) (fun c1 => absurd c1 (by decide)) (fun c1 => ?_)
    refine r_ldcS hX j3 dX7_namesOf_4 ?_
    refine r_goto hX dX7_namesOf_6 ?_
    exact r_areturn hX hQ dX7_namesOf_21 ⟨Nat.le_of_ble_eq_true rfl, Nat.le_of_ble_eq_true rfl⟩ (Or.inl ⟨_, rfl⟩) (Or.inr ⟨_, rfl⟩) PR.mk
  · skip
    refine r_iload_n hX dX7_namesOf_0 rfl ?_
    refine r_ifN_ne hX dX7_namesOf_1 (by decide) (fun c2 => ?_) (fun c2 => absurd c2 (by decide))
    refine r_iload_n hX dX7_namesOf_9 rfl ?_
    refine r_iconst hX (nI 1) dX7_namesOf_10 rfl ?_
    refine r_icmpN_ne hX dX7_namesOf_11 (by decide) (by decide) (fun c3 => absurd c3 (by decide)) (fun c3 => ?_)
    refine r_ldcS hX j4 dX7_namesOf_14 ?_
    refine r_goto hX dX7_namesOf_16 ?_
    exact r_areturn hX hQ dX7_namesOf_21 ⟨Nat.le_of_ble_eq_true rfl, Nat.le_of_ble_eq_true rfl⟩ (Or.inl ⟨_, rfl⟩) (Or.inr ⟨_, rfl⟩) PR.mk
  · skip
    refine r_iload_n hX dX7_namesOf_0 rfl ?_
    refine r_ifN_ne hX dX7_namesOf_1 (by decide) (fun c4 => ?_) (fun c4 => absurd c4 (by decide))
    refine r_iload_n hX dX7_namesOf_9 rfl ?_
    refine r_iconst hX (nI 1) dX7_namesOf_10 rfl ?_
    refine r_icmpN_ne hX dX7_namesOf_11 (by decide) (by decide) (fun c5 => ?_) (fun c5 => absurd c5 (by decide))
    refine r_ldcS hX j5 dX7_namesOf_19 ?_
    exact r_areturn hX hQ dX7_namesOf_21 ⟨Nat.le_of_ble_eq_true rfl, Nat.le_of_ble_eq_true rfl⟩ (Or.inl ⟨_, rfl⟩) (Or.inr ⟨_, rfl⟩) PR.mk

set_option maxHeartbeats 4000000 in
set_option maxRecDepth 100000 in
theorem c_X2_isNext {l : Launch} {D : Ds} {L : La}  (hA : CAt L) (σ : Me) (P : Tp) (hP : RTc σ P) (q : Lx) (hq : RLc σ q) (lok : Lok P q) {tx : List Nat} {a v : Nat} (hS : SD D tx a v) : Ct l yX2_isNext cX2_isNext 3 (some .boolean) { frames := 4, cells := 0, slots := 0, locals := 85 } D L σ [.ref (L.1 105), .ref a] (PF L σ (bI (decide (q.2.2.1 - q.1 = tx.length) && kyL P q.1 tx tx.length))) := by
  refine Ct.of (by decide) (Nat.le_of_ble_eq_true rfl) ?_
  intro X hl hD hnl hX0 hQ
  have hX : Ok X cX2_isNext RX2 "isNext" { frames := 4, cells := 0, slots := 0, locals := 85 } (some .boolean) := hX0
  have hN2 : 2 < xn X := by rw [hnl]; decide
  have hP96 := hP.2.1
  have := lok.2.1; have := lok.2.2.1
  obtain ⟨⟨hZ, hF⟩, hO, hco, hv, hT⟩ := hS.2.2 (xs X) (by rw [← hD]; exact hX.2.2.2.2.2.1.2.2.1)
  rw [← hD] at hZ hF hO hco hv hT
  have htl := hS.1
  show At X L σ 0 0 [(0, .ref (L.1 105)), (1, .ref a)] 0 []
  refine r_aload_n hX dX2_isNext_0 rfl ?_
  refine r_getIV hX dX2_isNext_1 fl_X2_34 (hA.1 105 (1, 0) rfl) rfl (nI q.2.2.1) hq.2.2 ?_
  refine r_aload_n hX dX2_isNext_4 rfl ?_
  refine r_getIV hX dX2_isNext_5 fl_X2_31 (hA.1 105 (1, 0) rfl) rfl (nI q.1) hq.2.1 ?_
  refine r_isubN hX dX2_isNext_8 (by omega) ?_
  refine r_aload_n hX dX2_isNext_9 rfl ?_
  refine r_callVSt (As := []) (rest := [.int (nI (q.2.2.1 - q.1))]) hX hO (by rw [hl, hD]; exact c_J0_length_8abf5 σ hS) dX2_isNext_10 cb_X2_84 rfl rfl ⟨Nat.le_of_ble_eq_true rfl, Nat.le_of_ble_eq_true rfl⟩ ⟨Nat.le_of_ble_eq_true rfl, Nat.le_of_ble_eq_true rfl⟩ (Nat.le_of_ble_eq_true rfl) ?_
  refine r_icmpN_eq hX dX2_isNext_13 (by omega) (by omega) (fun c1 => ?_) (fun c1 => ?_)
  · skip
    refine r_iconst hX (nI 0) dX2_isNext_18 rfl ?_
    refine r_istore_n hX [(0, .ref (L.1 105)), (1, .ref a), (2, .int (nI 0))] dX2_isNext_19 hN2 rfl ?_
    have P2 : ∀ k, k ≤ tx.length → ∀ (hky : kyL P q.1 tx k = true), At X L σ 0 0 [(0, .ref (L.1 105)), (1, .ref a), (2, .int (nI k))] 20 [] := by
      refine loopUp tx.length ?_ ?_
      · skip
        intro hky
        refine r_iload_n hX dX2_isNext_20 rfl ?_
        refine r_aload_n hX dX2_isNext_21 rfl ?_
        refine r_callVSt (As := []) (rest := [.int (nI tx.length)]) hX hO (by rw [hl, hD]; exact c_J0_length_8abf5 σ hS) dX2_isNext_22 cb_X2_84 rfl rfl ⟨Nat.le_of_ble_eq_true rfl, Nat.le_of_ble_eq_true rfl⟩ ⟨Nat.le_of_ble_eq_true rfl, Nat.le_of_ble_eq_true rfl⟩ (Nat.le_of_ble_eq_true rfl) ?_
        refine r_icmpN_ge hX dX2_isNext_25 (by omega) (by omega) (fun c3 => ?_) (fun c3 => absurd c3 (by omega))
        refine r_iconst hX (nI 1) dX2_isNext_58 rfl ?_
        exact r_zreturn hX hQ dX2_isNext_59 ⟨Nat.le_of_ble_eq_true rfl, Nat.le_of_ble_eq_true rfl⟩ rfl (PF.mk (bI_t (by rw [decide_eq_true c1, hky]; rfl)).symm)
      · skip
        intro k hk ih4 hky
        refine r_iload_n hX dX2_isNext_20 rfl ?_
        refine r_aload_n hX dX2_isNext_21 rfl ?_
        refine r_callVSt (As := []) (rest := [.int (nI k)]) hX hO (by rw [hl, hD]; exact c_J0_length_8abf5 σ hS) dX2_isNext_22 cb_X2_84 rfl rfl ⟨Nat.le_of_ble_eq_true rfl, Nat.le_of_ble_eq_true rfl⟩ ⟨Nat.le_of_ble_eq_true rfl, Nat.le_of_ble_eq_true rfl⟩ (Nat.le_of_ble_eq_true rfl) ?_
        refine r_icmpN_ge hX dX2_isNext_25 (by omega) (by omega) (fun c5 => absurd c5 (by omega)) (fun c5 => ?_)
        refine r_aload_n hX dX2_isNext_28 rfl ?_
        refine r_getR hX dX2_isNext_29 fl_X2_37 (hA.1 105 (1, 0) rfl) rfl (hA.2.1 105 0 103 rfl) ?_
        refine r_getR hX dX2_isNext_32 fl_X2_68 (hA.1 103 (5, 0) rfl) rfl (hA.2.1 103 0 104 rfl) ?_
        refine r_aload_n hX dX2_isNext_35 rfl ?_
        refine r_getIV hX dX2_isNext_36 fl_X2_31 (hA.1 105 (1, 0) rfl) rfl (nI q.1) hq.2.1 ?_
        refine r_iload_n hX dX2_isNext_39 rfl ?_
        refine r_iaddN hX dX2_isNext_40 ?_
        refine r_baldN hX dX2_isNext_41 (hA.1 104 (11, 96) rfl) (by decide) (by omega) (sb (P.2 (q.1 + k))) (hP.2.2 (q.1 + k) (by omega)).1 ?_
        refine r_aload_n hX dX2_isNext_42 rfl ?_
        refine r_iload_n hX dX2_isNext_43 rfl ?_
        refine r_callVSt (As := [.int (nI k)]) (rest := [.int (sb (P.2 (q.1 + k)))]) hX hO (by rw [hl, hD]; exact c_J0_charAt_5068e σ hS (k := k) (by omega)) dX2_isNext_44 cb_X2_89 rfl rfl ⟨Nat.le_of_ble_eq_true rfl, Nat.le_of_ble_eq_true rfl⟩ ⟨Nat.le_of_ble_eq_true rfl, Nat.le_of_ble_eq_true rfl⟩ (Nat.le_of_ble_eq_true rfl) ?_
        refine r_icmp_eq hX dX2_isNext_47 (fun c6 => ?_) (fun c6 => ?_)
        · skip
          refine r_iincN (n := 1) hX [(0, .ref (L.1 105)), (1, .ref a), (2, .int (nI (k + 1)))] dX2_isNext_52 rfl hN2 rfl ?_
          refine r_goto hX dX2_isNext_55 ?_
          exact At.to (ih4 (by rw [kyL, hky, decide_eq_true ((sb_eq (hP.2.2 _ (by omega)).2 (hS.2.1 k)).mp c6)]; rfl)) rfl rfl rfl
        · skip
          refine r_iconst hX (nI 0) dX2_isNext_50 rfl ?_
          exact r_zreturn hX hQ dX2_isNext_51 ⟨Nat.le_of_ble_eq_true rfl, Nat.le_of_ble_eq_true rfl⟩ rfl (PF.mk (bI_f (by rw [kyL_no (show kyL P q.1 tx (k + 1) = false by rw [kyL, decide_eq_false (fun e => c6 ((sb_eq (hP.2.2 _ (by omega)).2 (hS.2.1 k)).mpr e)), Bool.and_false]) _ (by omega), Bool.and_false])).symm)
    exact At.to (P2 0 (Nat.zero_le _) rfl) rfl rfl rfl
  · skip
    refine r_iconst hX (nI 0) dX2_isNext_16 rfl ?_
    exact r_zreturn hX hQ dX2_isNext_17 ⟨Nat.le_of_ble_eq_true rfl, Nat.le_of_ble_eq_true rfl⟩ rfl (PF.mk (bI_f (by rw [decide_eq_false c1]; rfl)).symm)

set_option maxHeartbeats 4000000 in
set_option maxRecDepth 100000 in
theorem c_X2_keyword {l : Launch} {D : Ds} {L : La}  (J : Nat → Nat × Nat) (hJ : CW D J) (hA : CAt L) (σ : Me) (P : Tp) (hP : RTc σ P) (q : Lx) (hq : RLc σ q) (lok : Lok P q) : Ct l yX2_keyword cX2_keyword 2 (some .int) { frames := 5, cells := 0, slots := 0, locals := 107 } D L σ [.ref (L.1 105)] (PF L σ (oI (kyO P q))) := by
  refine Ct.of (by decide) (Nat.le_of_ble_eq_true rfl) ?_
  intro X hl hD hnl hX0 hQ
  have hX : Ok X cX2_keyword RX2 "keyword" { frames := 5, cells := 0, slots := 0, locals := 107 } (some .int) := hX0
  have hN1 : 1 < xn X := by rw [hnl]; decide
  have hP96 := hP.2.1
  have := lok.2.1; have := lok.2.2.1
  show At X L σ 0 0 [(0, .ref (L.1 105))] 0 []
  refine r_iconst hX (nI 0) dX2_keyword_0 rfl ?_
  refine r_istore_n hX [(0, .ref (L.1 105)), (1, .int (nI 0))] dX2_keyword_1 hN1 rfl ?_
  refine r_iload_n hX dX2_keyword_2 rfl ?_
  refine r_iconst hX (nI 2) dX2_keyword_3 rfl ?_
  refine r_icmpN_gt hX dX2_keyword_4 (by decide) (by decide) (fun c1 => absurd c1 (by decide)) (fun c1 => ?_)
  refine r_aload_n hX dX2_keyword_7 rfl ?_
  refine r_getIV hX dX2_keyword_8 fl_X2_28 (hA.1 105 (1, 0) rfl) rfl (nI (nxN q)) hq.1 ?_
  refine r_iconst hX (nI 2) dX2_keyword_11 rfl ?_
  refine r_icmpN_ne hX dX2_keyword_12 (by have := nxN_le q; omega) (by decide) (fun c2 => ?_) (fun c2 => ?_)
  · skip
    have hno := c2
    refine r_iincN (n := 1) hX [(0, .ref (L.1 105)), (1, .int (nI 1))] dX2_keyword_28 rfl hN1 rfl ?_
    refine r_goto hX dX2_keyword_31 ?_
    refine r_iload_n hX dX2_keyword_2 rfl ?_
    refine r_iconst hX (nI 2) dX2_keyword_3 rfl ?_
    refine r_icmpN_gt hX dX2_keyword_4 (by decide) (by decide) (fun c3 => absurd c3 (by decide)) (fun c3 => ?_)
    refine r_aload_n hX dX2_keyword_7 rfl ?_
    refine r_getIV hX dX2_keyword_8 fl_X2_28 (hA.1 105 (1, 0) rfl) rfl (nI (nxN q)) hq.1 ?_
    refine r_iconst hX (nI 2) dX2_keyword_11 rfl ?_
    refine r_icmpN_ne hX dX2_keyword_12 (by have := nxN_le q; omega) (by decide) (fun c4 => ?_) (fun c4 => absurd c4 hno)
    refine r_iincN (n := 1) hX [(0, .ref (L.1 105)), (1, .int (nI 2))] dX2_keyword_28 rfl hN1 rfl ?_
    refine r_goto hX dX2_keyword_31 ?_
    refine r_iload_n hX dX2_keyword_2 rfl ?_
    refine r_iconst hX (nI 2) dX2_keyword_3 rfl ?_
    refine r_icmpN_gt hX dX2_keyword_4 (by decide) (by decide) (fun c5 => absurd c5 (by decide)) (fun c5 => ?_)
    refine r_aload_n hX dX2_keyword_7 rfl ?_
    refine r_getIV hX dX2_keyword_8 fl_X2_28 (hA.1 105 (1, 0) rfl) rfl (nI (nxN q)) hq.1 ?_
    refine r_iconst hX (nI 2) dX2_keyword_11 rfl ?_
    refine r_icmpN_ne hX dX2_keyword_12 (by have := nxN_le q; omega) (by decide) (fun c6 => ?_) (fun c6 => absurd c6 hno)
    refine r_iincN (n := 1) hX [(0, .ref (L.1 105)), (1, .int (nI 3))] dX2_keyword_28 rfl hN1 rfl ?_
    refine r_goto hX dX2_keyword_31 ?_
    refine r_iload_n hX dX2_keyword_2 rfl ?_
    refine r_iconst hX (nI 2) dX2_keyword_3 rfl ?_
    refine r_icmpN_gt hX dX2_keyword_4 (by decide) (by decide) (fun c7 => ?_) (fun c7 => absurd c7 (by decide))
    refine r_iconst hX (-1) dX2_keyword_34 rfl ?_
    exact r_ireturn hX hQ dX2_keyword_35 ⟨Nat.le_of_ble_eq_true rfl, Nat.le_of_ble_eq_true rfl⟩ (PF.mk (by rw [kw_0 lok hno]; rfl))
  · skip
    have hn2 := c2
    refine r_aload_n hX dX2_keyword_15 rfl ?_
    refine r_iload_n hX dX2_keyword_16 rfl ?_
    refine r_callSR (As := [.int (nI 0)]) (rest := [.ref (L.1 105)]) hX (by rw [hl, hD]; exact c_X7_wordOf J hJ σ 0 (by first | decide | omega)) dX2_keyword_17 cb_X2_76 rfl rfl ⟨Nat.le_of_ble_eq_true rfl, Nat.le_of_ble_eq_true rfl⟩ ⟨Nat.le_of_ble_eq_true rfl, Nat.le_of_ble_eq_true rfl⟩ (Nat.le_of_ble_eq_true rfl) ?_
    refine r_callVF (As := [.ref (J (0 + 0)).1]) (rest := []) hX (by rw [hl, hD]; exact c_X2_isNext hA σ P hP q hq lok (hJ.1 0 (by decide))) dX2_keyword_20 cb_X2_80 (hA.1 105 (1, 0) rfl) rfl rfl ⟨Nat.le_of_ble_eq_true rfl, Nat.le_of_ble_eq_true rfl⟩ ⟨Nat.le_of_ble_eq_true rfl, Nat.le_of_ble_eq_true rfl⟩ (Nat.le_of_ble_eq_true rfl) ?_
    refine r_ifB_eq hX dX2_keyword_23 (fun c8 => ?_) (fun c8 => ?_)
    · skip
      refine r_iincN (n := 1) hX [(0, .ref (L.1 105)), (1, .int (nI 1))] dX2_keyword_28 rfl hN1 rfl ?_
      refine r_goto hX dX2_keyword_31 ?_
      refine r_iload_n hX dX2_keyword_2 rfl ?_
      refine r_iconst hX (nI 2) dX2_keyword_3 rfl ?_
      refine r_icmpN_gt hX dX2_keyword_4 (by decide) (by decide) (fun c9 => absurd c9 (by decide)) (fun c9 => ?_)
      refine r_aload_n hX dX2_keyword_7 rfl ?_
      refine r_getIV hX dX2_keyword_8 fl_X2_28 (hA.1 105 (1, 0) rfl) rfl (nI (nxN q)) hq.1 ?_
      refine r_iconst hX (nI 2) dX2_keyword_11 rfl ?_
      refine r_icmpN_ne hX dX2_keyword_12 (by have := nxN_le q; omega) (by decide) (fun c10 => absurd hn2 c10) (fun c10 => ?_)
      refine r_aload_n hX dX2_keyword_15 rfl ?_
      refine r_iload_n hX dX2_keyword_16 rfl ?_
      refine r_callSR (As := [.int (nI 1)]) (rest := [.ref (L.1 105)]) hX (by rw [hl, hD]; exact c_X7_wordOf J hJ σ 1 (by first | decide | omega)) dX2_keyword_17 cb_X2_76 rfl rfl ⟨Nat.le_of_ble_eq_true rfl, Nat.le_of_ble_eq_true rfl⟩ ⟨Nat.le_of_ble_eq_true rfl, Nat.le_of_ble_eq_true rfl⟩ (Nat.le_of_ble_eq_true rfl) ?_
      refine r_callVF (As := [.ref (J (0 + 1)).1]) (rest := []) hX (by rw [hl, hD]; exact c_X2_isNext hA σ P hP q hq lok (hJ.1 1 (by decide))) dX2_keyword_20 cb_X2_80 (hA.1 105 (1, 0) rfl) rfl rfl ⟨Nat.le_of_ble_eq_true rfl, Nat.le_of_ble_eq_true rfl⟩ ⟨Nat.le_of_ble_eq_true rfl, Nat.le_of_ble_eq_true rfl⟩ (Nat.le_of_ble_eq_true rfl) ?_
      refine r_ifB_eq hX dX2_keyword_23 (fun c11 => ?_) (fun c11 => ?_)
      · skip
        refine r_iincN (n := 1) hX [(0, .ref (L.1 105)), (1, .int (nI 2))] dX2_keyword_28 rfl hN1 rfl ?_
        refine r_goto hX dX2_keyword_31 ?_
        refine r_iload_n hX dX2_keyword_2 rfl ?_
        refine r_iconst hX (nI 2) dX2_keyword_3 rfl ?_
        refine r_icmpN_gt hX dX2_keyword_4 (by decide) (by decide) (fun c12 => absurd c12 (by decide)) (fun c12 => ?_)
        refine r_aload_n hX dX2_keyword_7 rfl ?_
        refine r_getIV hX dX2_keyword_8 fl_X2_28 (hA.1 105 (1, 0) rfl) rfl (nI (nxN q)) hq.1 ?_
        refine r_iconst hX (nI 2) dX2_keyword_11 rfl ?_
        refine r_icmpN_ne hX dX2_keyword_12 (by have := nxN_le q; omega) (by decide) (fun c13 => absurd hn2 c13) (fun c13 => ?_)
        refine r_aload_n hX dX2_keyword_15 rfl ?_
        refine r_iload_n hX dX2_keyword_16 rfl ?_
        refine r_callSR (As := [.int (nI 2)]) (rest := [.ref (L.1 105)]) hX (by rw [hl, hD]; exact c_X7_wordOf J hJ σ 2 (by first | decide | omega)) dX2_keyword_17 cb_X2_76 rfl rfl ⟨Nat.le_of_ble_eq_true rfl, Nat.le_of_ble_eq_true rfl⟩ ⟨Nat.le_of_ble_eq_true rfl, Nat.le_of_ble_eq_true rfl⟩ (Nat.le_of_ble_eq_true rfl) ?_
        refine r_callVF (As := [.ref (J (0 + 2)).1]) (rest := []) hX (by rw [hl, hD]; exact c_X2_isNext hA σ P hP q hq lok (hJ.1 2 (by decide))) dX2_keyword_20 cb_X2_80 (hA.1 105 (1, 0) rfl) rfl rfl ⟨Nat.le_of_ble_eq_true rfl, Nat.le_of_ble_eq_true rfl⟩ ⟨Nat.le_of_ble_eq_true rfl, Nat.le_of_ble_eq_true rfl⟩ (Nat.le_of_ble_eq_true rfl) ?_
        refine r_ifB_eq hX dX2_keyword_23 (fun c14 => ?_) (fun c14 => ?_)
        · skip
          refine r_iincN (n := 1) hX [(0, .ref (L.1 105)), (1, .int (nI 3))] dX2_keyword_28 rfl hN1 rfl ?_
          refine r_goto hX dX2_keyword_31 ?_
          refine r_iload_n hX dX2_keyword_2 rfl ?_
          refine r_iconst hX (nI 2) dX2_keyword_3 rfl ?_
          refine r_icmpN_gt hX dX2_keyword_4 (by decide) (by decide) (fun c15 => ?_) (fun c15 => absurd c15 (by decide))
          refine r_iconst hX (-1) dX2_keyword_34 rfl ?_
          exact r_ireturn hX hQ dX2_keyword_35 ⟨Nat.le_of_ble_eq_true rfl, Nat.le_of_ble_eq_true rfl⟩ (PF.mk (by unfold kyO; rw [if_neg (by rw [kw_b lok hn2 0, c8]; decide), if_neg (by rw [kw_b lok hn2 1, c11]; decide), if_neg (by rw [kw_b lok hn2 2, c14]; decide)]; rfl))
        · skip
          refine r_iload_n hX dX2_keyword_26 rfl ?_
          exact r_ireturn hX hQ dX2_keyword_27 ⟨Nat.le_of_ble_eq_true rfl, Nat.le_of_ble_eq_true rfl⟩ (PF.mk (by unfold kyO; rw [if_neg (by rw [kw_b lok hn2 0, c8]; decide), if_neg (by rw [kw_b lok hn2 1, c11]; decide), if_pos (by rw [kw_b lok hn2 2]; exact c14)]; rfl))
      · skip
        refine r_iload_n hX dX2_keyword_26 rfl ?_
        exact r_ireturn hX hQ dX2_keyword_27 ⟨Nat.le_of_ble_eq_true rfl, Nat.le_of_ble_eq_true rfl⟩ (PF.mk (by unfold kyO; rw [if_neg (by rw [kw_b lok hn2 0, c8]; decide), if_pos (by rw [kw_b lok hn2 1]; exact c11)]; rfl))
    · skip
      refine r_iload_n hX dX2_keyword_26 rfl ?_
      exact r_ireturn hX hQ dX2_keyword_27 ⟨Nat.le_of_ble_eq_true rfl, Nat.le_of_ble_eq_true rfl⟩ (PF.mk (by unfold kyO; rw [if_pos (by rw [kw_b lok hn2 0]; exact c8)]; rfl))

set_option maxHeartbeats 4000000 in
set_option maxRecDepth 100000 in
theorem c_X2_isMark {l : Launch} {D : Ds} {L : La}  (hA : CAt L) (σ : Me) (P : Tp) (hP : RTc σ P) (q : Lx) (hq : RLc σ q) (lok : Lok P q) (v : Nat) (hv : v < 128) : Ct l yX2_isMark cX2_isMark 2 (some .boolean) { frames := 0, cells := 0, slots := 0, locals := 0 } D L σ [.ref (L.1 105), .int (nI v)] (PF L σ (bI (sgB P q v))) := by
  refine Ct.of (by decide) (Nat.le_of_ble_eq_true rfl) ?_
  intro X hl hD hnl hX0 hQ
  have hX : Ok X cX2_isMark RX2 "isMark" { frames := 0, cells := 0, slots := 0, locals := 0 } (some .boolean) := hX0
  have hP96 := hP.2.1
  have := lok.2.1; have := lok.2.2.1
  show At X L σ 0 0 [(0, .ref (L.1 105)), (1, .int (nI v))] 0 []
  refine r_aload_n hX dX2_isMark_0 rfl ?_
  refine r_getIV hX dX2_isMark_1 fl_X2_28 (hA.1 105 (1, 0) rfl) rfl (nI (nxN q)) hq.1 ?_
  refine r_iconst hX (nI 1) dX2_isMark_4 rfl ?_
  refine r_icmpN_ne hX dX2_isMark_5 (by have := nxN_le q; omega) (by decide) (fun c1 => ?_) (fun c1 => ?_)
  · skip
    refine r_iconst hX (nI 0) dX2_isMark_28 rfl ?_
    exact r_zreturn hX hQ dX2_isMark_29 ⟨Nat.le_of_ble_eq_true rfl, Nat.le_of_ble_eq_true rfl⟩ rfl (PF.mk (bI_f (by unfold sgB; rw [decide_eq_false (fun e => c1 ((nx1 lok).mpr e))]; rfl)).symm)
  · skip
    have hql := lok.2.2.2 (by have := (nx1 lok).mp c1; omega)
    refine r_aload_n hX dX2_isMark_8 rfl ?_
    refine r_getR hX dX2_isMark_9 fl_X2_37 (hA.1 105 (1, 0) rfl) rfl (hA.2.1 105 0 103 rfl) ?_
    refine r_getR hX dX2_isMark_12 fl_X2_68 (hA.1 103 (5, 0) rfl) rfl (hA.2.1 103 0 104 rfl) ?_
    refine r_aload_n hX dX2_isMark_15 rfl ?_
    refine r_getIV hX dX2_isMark_16 fl_X2_31 (hA.1 105 (1, 0) rfl) rfl (nI q.1) hq.2.1 ?_
    refine r_baldN hX dX2_isMark_19 (hA.1 104 (11, 96) rfl) (by decide) (by omega) (sb (P.2 q.1)) (hP.2.2 q.1 (by omega)).1 ?_
    refine r_iload_n hX dX2_isMark_20 rfl ?_
    refine r_icmp_ne hX dX2_isMark_21 (fun c2 => ?_) (fun c2 => ?_)
    · skip
      refine r_iconst hX (nI 0) dX2_isMark_28 rfl ?_
      exact r_zreturn hX hQ dX2_isMark_29 ⟨Nat.le_of_ble_eq_true rfl, Nat.le_of_ble_eq_true rfl⟩ rfl (PF.mk (bI_f (by unfold sgB; rw [decide_eq_false (p := P.2 q.1 = v) (fun e => c2 ((sb_eq (hP.2.2 _ (by omega)).2 hv).mpr e)), Bool.and_false])).symm)
    · skip
      refine r_iconst hX (nI 1) dX2_isMark_24 rfl ?_
      refine r_goto hX dX2_isMark_25 ?_
      exact r_zreturn hX hQ dX2_isMark_29 ⟨Nat.le_of_ble_eq_true rfl, Nat.le_of_ble_eq_true rfl⟩ rfl (PF.mk (bI_t (by unfold sgB; rw [decide_eq_true ((nx1 lok).mp c1), decide_eq_true ((sb_eq (hP.2.2 _ (by omega)).2 hv).mp c2)]; rfl)).symm)

set_option maxHeartbeats 4000000 in
set_option maxRecDepth 100000 in
theorem c_X2_number {l : Launch} {D : Ds} {L : La}  (hA : CAt L) (σ : Me) (P : Tp) (hP : RTc σ P) (q : Lx) (hq : RLc σ q) (lok : Lok P q) (hd : q.2.1 = 2) (h4 : q.2.2.1 - q.1 ≤ 4) : Ct l yX2_number cX2_number 3 (some .int) { frames := 0, cells := 0, slots := 0, locals := 0 } D L σ [.ref (L.1 105)] (PF L σ (nI (vlN P q))) := by
  refine Ct.of (by decide) (Nat.le_of_ble_eq_true rfl) ?_
  intro X hl hD hnl hX0 hQ
  have hX : Ok X cX2_number RX2 "number" { frames := 0, cells := 0, slots := 0, locals := 0 } (some .int) := hX0
  have hN1 : 1 < xn X := by rw [hnl]; decide
  have hN2 : 2 < xn X := by rw [hnl]; decide
  have hP96 := hP.2.1
  have := lok.2.1; have := lok.2.2.1
  obtain ⟨r1, r2, r3, r4⟩ := rnn_ok P 2 (e := q.1) (by omega)
  have hE : q.2.2.1 = rnn P 2 q.1 := by rw [lok.1.2.2]; unfold lxE; rw [← lok.1.2.1, hd]; rfl
  show At X L σ 0 0 [(0, .ref (L.1 105))] 0 []
  refine r_iconst hX (nI 0) dX2_number_0 rfl ?_
  refine r_istore_n hX [(0, .ref (L.1 105)), (1, .int (nI 0))] dX2_number_1 hN1 rfl ?_
  refine r_aload_n hX dX2_number_2 rfl ?_
  refine r_getIV hX dX2_number_3 fl_X2_31 (hA.1 105 (1, 0) rfl) rfl (nI q.1) hq.2.1 ?_
  refine r_istore_n hX [(0, .ref (L.1 105)), (1, .int (nI 0)), (2, .int (nI q.1))] dX2_number_6 hN2 rfl ?_
  have P1 : ∀ j, j ≤ q.2.2.1 - q.1 → At X L σ 0 0 [(0, .ref (L.1 105)), (1, .int (nI (vD P q.1 j))), (2, .int (nI (q.1 + j)))] 7 [] := by
    refine loopUp (q.2.2.1 - q.1) ?_ ?_
    · skip
      refine r_iload_n hX dX2_number_7 rfl ?_
      refine r_aload_n hX dX2_number_8 rfl ?_
      refine r_getIV hX dX2_number_9 fl_X2_34 (hA.1 105 (1, 0) rfl) rfl (nI q.2.2.1) hq.2.2 ?_
      refine r_icmpN_ge hX dX2_number_12 (by omega) (by omega) (fun c2 => ?_) (fun c2 => absurd c2 (by omega))
      refine r_iload_n hX dX2_number_39 rfl ?_
      exact r_ireturn hX hQ dX2_number_40 ⟨Nat.le_of_ble_eq_true rfl, Nat.le_of_ble_eq_true rfl⟩ (PF.mk (by unfold vlN; rw [if_neg (by omega), if_pos hd]))
    · skip
      intro j hj ih3
      have hdg := dig_in (r3 (q.1 + j) (by omega) (by omega))
      refine r_iload_n hX dX2_number_7 rfl ?_
      refine r_aload_n hX dX2_number_8 rfl ?_
      refine r_getIV hX dX2_number_9 fl_X2_34 (hA.1 105 (1, 0) rfl) rfl (nI q.2.2.1) hq.2.2 ?_
      refine r_icmpN_ge hX dX2_number_12 (by omega) (by omega) (fun c4 => absurd c4 (by omega)) (fun c4 => ?_)
      refine r_bipush hX (nI 10) dX2_number_15 rfl ?_
      refine r_iload_n hX dX2_number_17 rfl ?_
      refine r_imulN hX dX2_number_18 ?_
      refine r_aload_n hX dX2_number_19 rfl ?_
      refine r_getR hX dX2_number_20 fl_X2_37 (hA.1 105 (1, 0) rfl) rfl (hA.2.1 105 0 103 rfl) ?_
      refine r_getR hX dX2_number_23 fl_X2_68 (hA.1 103 (5, 0) rfl) rfl (hA.2.1 103 0 104 rfl) ?_
      refine r_iload_n hX dX2_number_26 rfl ?_
      refine r_baldN hX dX2_number_27 (hA.1 104 (11, 96) rfl) (by decide) (by omega) (nI (P.2 (q.1 + j))) ((hP.2.2 (q.1 + j) (by omega)).1.trans (sb_lt (by omega))) ?_
      refine r_iaddN hX dX2_number_28 ?_
      refine r_bipush hX (nI 48) dX2_number_29 rfl ?_
      refine r_isubN hX dX2_number_31 (by omega) ?_
      refine r_istore_n hX [(0, .ref (L.1 105)), (1, .int (nI (10 * (vD P q.1 j) + (P.2 (q.1 + j)) - 48))), (2, .int (nI (q.1 + j)))] dX2_number_32 hN1 rfl ?_
      refine r_iincN (n := 1) hX [(0, .ref (L.1 105)), (1, .int (nI (10 * (vD P q.1 j) + (P.2 (q.1 + j)) - 48))), (2, .int (nI (q.1 + j + 1)))] dX2_number_33 rfl hN2 rfl ?_
      refine r_goto hX dX2_number_36 ?_
      have q5 : vD P q.1 (j + 1) = 10 * (vD P q.1 j) + (P.2 (q.1 + j)) - 48 := (by rw [vD, if_pos (by omega)]; omega)
      have q6 : q.1 + (j + 1) = q.1 + j + 1 := (by omega)
      exact At.to ih3 (by rw [q5, q6]) rfl rfl
  exact At.to (P1 0 (Nat.zero_le _)) rfl rfl rfl

set_option maxHeartbeats 4000000 in
set_option maxRecDepth 100000 in
theorem c_X2_nameOfNext {l : Launch} {D : Ds} {L : La}  (J : Nat → Nat × Nat) (hJ : CW D J) (hA : CAt L) (σ : Me) (P : Tp) (hP : RTc σ P) (q : Lx) (hq : RLc σ q) (lok : Lok P q) (key : Nat) (hkey : key ≤ 2) (h4 : σ 105 4 = nI key) (hlt : 97 ≤ P.2 q.1 ∧ P.2 q.1 ≤ 122) (hql : q.1 < P.1) : Ct l yX2_nameOfNext cX2_nameOfNext 1 (some .int) { frames := 4, cells := 0, slots := 0, locals := 91 } D L σ [.ref (L.1 105)] (PF L σ (if ltr key (P.2 q.1 - 97) = true then nI (plc key (P.2 q.1 - 97)) else (-1))) := by
  refine Ct.of (by decide) (Nat.le_of_ble_eq_true rfl) ?_
  intro X hl hD hnl hX0 hQ
  have hX : Ok X cX2_nameOfNext RX2 "nameOfNext" { frames := 4, cells := 0, slots := 0, locals := 91 } (some .int) := hX0
  have hP96 := hP.2.1
  have := lok.2.1; have := lok.2.2.1
  show At X L σ 0 0 [(0, .ref (L.1 105))] 0 []
  rcases (show key = 0 ∨ key = 1 ∨ key = 2 by omega) with rfl | rfl | rfl
  · skip
    have hS := hJ.2.1 0 (by decide)
    obtain ⟨-, hO, -⟩ := hS.2.2 (xs X) (by rw [← hD]; exact hX.2.2.2.2.2.1.2.2.1)
    rw [← hD] at hO
    refine r_aload_n hX dX2_nameOfNext_0 rfl ?_
    refine r_getIV hX dX2_nameOfNext_1 fl_X2_22 (hA.1 105 (1, 0) rfl) rfl (nI 0) h4 ?_
    refine r_callSR (As := [.int (nI 0)]) (rest := []) hX (by rw [hl, hD]; exact c_X7_namesOf J hJ σ 0 (by first | decide | omega)) dX2_nameOfNext_4 cb_X2_120 rfl rfl ⟨Nat.le_of_ble_eq_true rfl, Nat.le_of_ble_eq_true rfl⟩ ⟨Nat.le_of_ble_eq_true rfl, Nat.le_of_ble_eq_true rfl⟩ (Nat.le_of_ble_eq_true rfl) ?_
    refine r_aload_n hX dX2_nameOfNext_7 rfl ?_
    refine r_getR hX dX2_nameOfNext_8 fl_X2_37 (hA.1 105 (1, 0) rfl) rfl (hA.2.1 105 0 103 rfl) ?_
    refine r_getR hX dX2_nameOfNext_11 fl_X2_68 (hA.1 103 (5, 0) rfl) rfl (hA.2.1 103 0 104 rfl) ?_
    refine r_aload_n hX dX2_nameOfNext_14 rfl ?_
    refine r_getIV hX dX2_nameOfNext_15 fl_X2_31 (hA.1 105 (1, 0) rfl) rfl (nI q.1) hq.2.1 ?_
    refine r_baldN hX dX2_nameOfNext_18 (hA.1 104 (11, 96) rfl) (by decide) (by omega) (sb (P.2 q.1)) (hP.2.2 q.1 (by omega)).1 ?_
    refine r_i2c hX dX2_nameOfNext_19 ?_
    rw [show ((sb (P.2 q.1)).toUInt32 % 65536).toInt32 = nI (P.2 q.1) from by rw [sb_lt (by omega)]; exact i2c_n (by omega)]
    refine r_callVSt (As := [.int (nI (P.2 q.1))]) (rest := []) hX hO (by rw [hl, hD]; exact c_J0_indexOf_0f7a4 σ hS (P.2 q.1) (by omega) (by decide)) dX2_nameOfNext_20 cb_X2_123 rfl rfl ⟨Nat.le_of_ble_eq_true rfl, Nat.le_of_ble_eq_true rfl⟩ ⟨Nat.le_of_ble_eq_true rfl, Nat.le_of_ble_eq_true rfl⟩ (Nat.le_of_ble_eq_true rfl) ?_
    exact r_ireturn hX hQ dX2_nameOfNext_23 ⟨Nat.le_of_ble_eq_true rfl, Nat.le_of_ble_eq_true rfl⟩ (PF.mk (by rw [← nm_ix _ (by decide) _ (by omega), show 97 + (P.2 q.1 - 97) = P.2 q.1 by omega]))
  · skip
    have hS := hJ.2.1 1 (by decide)
    obtain ⟨-, hO, -⟩ := hS.2.2 (xs X) (by rw [← hD]; exact hX.2.2.2.2.2.1.2.2.1)
    rw [← hD] at hO
    refine r_aload_n hX dX2_nameOfNext_0 rfl ?_
    refine r_getIV hX dX2_nameOfNext_1 fl_X2_22 (hA.1 105 (1, 0) rfl) rfl (nI 1) h4 ?_
    refine r_callSR (As := [.int (nI 1)]) (rest := []) hX (by rw [hl, hD]; exact c_X7_namesOf J hJ σ 1 (by first | decide | omega)) dX2_nameOfNext_4 cb_X2_120 rfl rfl ⟨Nat.le_of_ble_eq_true rfl, Nat.le_of_ble_eq_true rfl⟩ ⟨Nat.le_of_ble_eq_true rfl, Nat.le_of_ble_eq_true rfl⟩ (Nat.le_of_ble_eq_true rfl) ?_
    refine r_aload_n hX dX2_nameOfNext_7 rfl ?_
    refine r_getR hX dX2_nameOfNext_8 fl_X2_37 (hA.1 105 (1, 0) rfl) rfl (hA.2.1 105 0 103 rfl) ?_
    refine r_getR hX dX2_nameOfNext_11 fl_X2_68 (hA.1 103 (5, 0) rfl) rfl (hA.2.1 103 0 104 rfl) ?_
    refine r_aload_n hX dX2_nameOfNext_14 rfl ?_
    refine r_getIV hX dX2_nameOfNext_15 fl_X2_31 (hA.1 105 (1, 0) rfl) rfl (nI q.1) hq.2.1 ?_
    refine r_baldN hX dX2_nameOfNext_18 (hA.1 104 (11, 96) rfl) (by decide) (by omega) (sb (P.2 q.1)) (hP.2.2 q.1 (by omega)).1 ?_
    refine r_i2c hX dX2_nameOfNext_19 ?_
    rw [show ((sb (P.2 q.1)).toUInt32 % 65536).toInt32 = nI (P.2 q.1) from by rw [sb_lt (by omega)]; exact i2c_n (by omega)]
    refine r_callVSt (As := [.int (nI (P.2 q.1))]) (rest := []) hX hO (by rw [hl, hD]; exact c_J0_indexOf_0f7a4 σ hS (P.2 q.1) (by omega) (by decide)) dX2_nameOfNext_20 cb_X2_123 rfl rfl ⟨Nat.le_of_ble_eq_true rfl, Nat.le_of_ble_eq_true rfl⟩ ⟨Nat.le_of_ble_eq_true rfl, Nat.le_of_ble_eq_true rfl⟩ (Nat.le_of_ble_eq_true rfl) ?_
    exact r_ireturn hX hQ dX2_nameOfNext_23 ⟨Nat.le_of_ble_eq_true rfl, Nat.le_of_ble_eq_true rfl⟩ (PF.mk (by rw [← nm_ix _ (by decide) _ (by omega), show 97 + (P.2 q.1 - 97) = P.2 q.1 by omega]))
  · skip
    have hS := hJ.2.1 2 (by decide)
    obtain ⟨-, hO, -⟩ := hS.2.2 (xs X) (by rw [← hD]; exact hX.2.2.2.2.2.1.2.2.1)
    rw [← hD] at hO
    refine r_aload_n hX dX2_nameOfNext_0 rfl ?_
    refine r_getIV hX dX2_nameOfNext_1 fl_X2_22 (hA.1 105 (1, 0) rfl) rfl (nI 2) h4 ?_
    refine r_callSR (As := [.int (nI 2)]) (rest := []) hX (by rw [hl, hD]; exact c_X7_namesOf J hJ σ 2 (by first | decide | omega)) dX2_nameOfNext_4 cb_X2_120 rfl rfl ⟨Nat.le_of_ble_eq_true rfl, Nat.le_of_ble_eq_true rfl⟩ ⟨Nat.le_of_ble_eq_true rfl, Nat.le_of_ble_eq_true rfl⟩ (Nat.le_of_ble_eq_true rfl) ?_
    refine r_aload_n hX dX2_nameOfNext_7 rfl ?_
    refine r_getR hX dX2_nameOfNext_8 fl_X2_37 (hA.1 105 (1, 0) rfl) rfl (hA.2.1 105 0 103 rfl) ?_
    refine r_getR hX dX2_nameOfNext_11 fl_X2_68 (hA.1 103 (5, 0) rfl) rfl (hA.2.1 103 0 104 rfl) ?_
    refine r_aload_n hX dX2_nameOfNext_14 rfl ?_
    refine r_getIV hX dX2_nameOfNext_15 fl_X2_31 (hA.1 105 (1, 0) rfl) rfl (nI q.1) hq.2.1 ?_
    refine r_baldN hX dX2_nameOfNext_18 (hA.1 104 (11, 96) rfl) (by decide) (by omega) (sb (P.2 q.1)) (hP.2.2 q.1 (by omega)).1 ?_
    refine r_i2c hX dX2_nameOfNext_19 ?_
    rw [show ((sb (P.2 q.1)).toUInt32 % 65536).toInt32 = nI (P.2 q.1) from by rw [sb_lt (by omega)]; exact i2c_n (by omega)]
    refine r_callVSt (As := [.int (nI (P.2 q.1))]) (rest := []) hX hO (by rw [hl, hD]; exact c_J0_indexOf_0f7a4 σ hS (P.2 q.1) (by omega) (by decide)) dX2_nameOfNext_20 cb_X2_123 rfl rfl ⟨Nat.le_of_ble_eq_true rfl, Nat.le_of_ble_eq_true rfl⟩ ⟨Nat.le_of_ble_eq_true rfl, Nat.le_of_ble_eq_true rfl⟩ (Nat.le_of_ble_eq_true rfl) ?_
    exact r_ireturn hX hQ dX2_nameOfNext_23 ⟨Nat.le_of_ble_eq_true rfl, Nat.le_of_ble_eq_true rfl⟩ (PF.mk (by rw [← nm_ix _ (by decide) _ (by omega), show 97 + (P.2 q.1 - 97) = P.2 q.1 by omega]))
