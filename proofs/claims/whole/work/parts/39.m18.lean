set_option maxHeartbeats 4000000 in
set_option maxRecDepth 100000 in
theorem c_X10_isKey {l : Launch} {D : Ds} {L : La} (hM : MAt L) (σ : Me) (P : Tp) (q : Lx) (hT0 : RT σ P) (hl0 : RLx σ P q) (lok : Lok P q) {tx : List Nat} {a v : Nat} (hS : SD D tx a v) : Ct l yX10_isKey cX10_isKey 4 (some .boolean) { frames := 4, cells := 0, slots := 0, locals := 85 } D L σ [.ref (L.1 0), .ref a] (PF L σ (bI (kyB P q tx))) := by
  refine Ct.of (by decide) (Nat.le_of_ble_eq_true rfl) ?_
  intro X hl hD hnl hX0 hQ
  have hX : Ok X cX10_isKey RX10 "isKey" { frames := 4, cells := 0, slots := 0, locals := 85 } (some .boolean) := hX0
  have hN2 : 2 < xn X := by rw [hnl]; decide
  have hN3 : 3 < xn X := by rw [hnl]; decide
  have hlx := lex_le (fun k hk => (hT0.2.2 k hk).2) lok
  have hP96 := hT0.2.1
  have hsz := sz_in lok
  have htl := hS.1
  obtain ⟨-, hO, -⟩ := hS.2.2 (xs X) (by rw [← hD]; exact hX.2.2.2.2.2.1.2.2.1)
  rw [← hD] at hO
  show At X L σ 0 0 [(0, .ref (L.1 0)), (1, .ref a)] 0 []
  refine r_aload_n hX dX10_isKey_0 rfl ?_
  refine r_getIV hX dX10_isKey_1 fl_X10_261 (hM.1 0 (9, 0) rfl) rfl (nI (mkN q)) hl0.2.2.1 ?_
  refine r_iconst hX (nI 1) dX10_isKey_4 rfl ?_
  refine r_icmpN_ne hX dX10_isKey_5 (by omega) (by decide) (fun c1 => ?_) (fun c1 => ?_)
  · skip
    refine r_iconst hX (nI 0) dX10_isKey_23 rfl ?_
    refine r_istore_n hX [(0, .ref (L.1 0)), (1, .ref a), (2, .int (nI 0))] dX10_isKey_24 hN2 rfl ?_
    refine r_iconst hX (nI 0) dX10_isKey_25 rfl ?_
    refine r_istore_n hX [(0, .ref (L.1 0)), (1, .ref a), (2, .int (nI 0)), (3, .int (nI 0))] dX10_isKey_26 hN3 rfl ?_
    refine r_iload_n hX dX10_isKey_27 rfl ?_
    refine r_aload_n hX dX10_isKey_28 rfl ?_
    refine r_getIV hX dX10_isKey_29 fl_X10_249 (hM.1 0 (9, 0) rfl) rfl (nI (szN q)) hl0.2.2.2.1 ?_
    refine r_icmpN_ge hX dX10_isKey_32 (by decide) (by omega) (fun c2 => ?_) (fun c2 => ?_)
    · skip
      refine r_iload_n hX dX10_isKey_70 rfl ?_
      exact r_zreturn hX hQ dX10_isKey_71 ⟨Nat.le_of_ble_eq_true rfl, Nat.le_of_ble_eq_true rfl⟩ rfl (PF.mk (bI_f (by unfold kyB; rw [decide_eq_false c1]; rfl)).symm)
    · skip
      refine r_iload_n hX dX10_isKey_35 rfl ?_
      refine r_ifN_eq hX dX10_isKey_36 (by decide) (fun c3 => ?_) (fun c3 => absurd c3 (by decide))
      refine r_iload_n hX dX10_isKey_70 rfl ?_
      exact r_zreturn hX hQ dX10_isKey_71 ⟨Nat.le_of_ble_eq_true rfl, Nat.le_of_ble_eq_true rfl⟩ rfl (PF.mk (bI_f (by unfold kyB; rw [decide_eq_false c1]; rfl)).symm)
  · skip
    refine r_aload_n hX dX10_isKey_8 rfl ?_
    refine r_getIV hX dX10_isKey_9 fl_X10_249 (hM.1 0 (9, 0) rfl) rfl (nI (szN q)) hl0.2.2.2.1 ?_
    refine r_aload_n hX dX10_isKey_12 rfl ?_
    refine r_callVSt (As := []) (rest := [.int (nI (szN q))]) hX hO (by rw [hl, hD]; exact c_J0_length_8abf5 σ hS) dX10_isKey_13 cb_X10_273 rfl rfl ⟨Nat.le_of_ble_eq_true rfl, Nat.le_of_ble_eq_true rfl⟩ ⟨Nat.le_of_ble_eq_true rfl, Nat.le_of_ble_eq_true rfl⟩ (Nat.le_of_ble_eq_true rfl) ?_
    refine r_icmpN_ne hX dX10_isKey_16 (by omega) (by omega) (fun c4 => ?_) (fun c4 => ?_)
    · skip
      refine r_iconst hX (nI 0) dX10_isKey_23 rfl ?_
      refine r_istore_n hX [(0, .ref (L.1 0)), (1, .ref a), (2, .int (nI 0))] dX10_isKey_24 hN2 rfl ?_
      refine r_iconst hX (nI 0) dX10_isKey_25 rfl ?_
      refine r_istore_n hX [(0, .ref (L.1 0)), (1, .ref a), (2, .int (nI 0)), (3, .int (nI 0))] dX10_isKey_26 hN3 rfl ?_
      refine r_iload_n hX dX10_isKey_27 rfl ?_
      refine r_aload_n hX dX10_isKey_28 rfl ?_
      refine r_getIV hX dX10_isKey_29 fl_X10_249 (hM.1 0 (9, 0) rfl) rfl (nI (szN q)) hl0.2.2.2.1 ?_
      refine r_icmpN_ge hX dX10_isKey_32 (by decide) (by omega) (fun c5 => ?_) (fun c5 => ?_)
      · skip
        refine r_iload_n hX dX10_isKey_70 rfl ?_
        exact r_zreturn hX hQ dX10_isKey_71 ⟨Nat.le_of_ble_eq_true rfl, Nat.le_of_ble_eq_true rfl⟩ rfl (PF.mk (bI_f (by unfold kyB; rw [decide_eq_false (p := szN q = tx.length) c4, Bool.and_false]; rfl)).symm)
      · skip
        refine r_iload_n hX dX10_isKey_35 rfl ?_
        refine r_ifN_eq hX dX10_isKey_36 (by decide) (fun c6 => ?_) (fun c6 => absurd c6 (by decide))
        refine r_iload_n hX dX10_isKey_70 rfl ?_
        exact r_zreturn hX hQ dX10_isKey_71 ⟨Nat.le_of_ble_eq_true rfl, Nat.le_of_ble_eq_true rfl⟩ rfl (PF.mk (bI_f (by unfold kyB; rw [decide_eq_false (p := szN q = tx.length) c4, Bool.and_false]; rfl)).symm)
    · skip
      refine r_iconst hX (nI 1) dX10_isKey_19 rfl ?_
      refine r_goto hX dX10_isKey_20 ?_
      refine r_istore_n hX [(0, .ref (L.1 0)), (1, .ref a), (2, .int (nI 1))] dX10_isKey_24 hN2 rfl ?_
      refine r_iconst hX (nI 0) dX10_isKey_25 rfl ?_
      refine r_istore_n hX [(0, .ref (L.1 0)), (1, .ref a), (2, .int (nI 1)), (3, .int (nI 0))] dX10_isKey_26 hN3 rfl ?_
      have P7 : ∀ k, k ≤ szN q → At X L σ 0 0 [(0, .ref (L.1 0)), (1, .ref a), (2, .int (bI (kyL P q.1 tx k))), (3, .int (nI k))] 27 [] := by
        refine loopUp (szN q) ?_ ?_
        · skip
          refine r_iload_n hX dX10_isKey_27 rfl ?_
          refine r_aload_n hX dX10_isKey_28 rfl ?_
          refine r_getIV hX dX10_isKey_29 fl_X10_249 (hM.1 0 (9, 0) rfl) rfl (nI (szN q)) hl0.2.2.2.1 ?_
          refine r_icmpN_ge hX dX10_isKey_32 (by omega) (by omega) (fun c8 => ?_) (fun c8 => absurd c8 (by omega))
          refine r_iload_n hX dX10_isKey_70 rfl ?_
          exact r_zreturn hX hQ dX10_isKey_71 ⟨Nat.le_of_ble_eq_true rfl, Nat.le_of_ble_eq_true rfl⟩ (nar_bI _) (PF.mk (by unfold kyB; rw [decide_eq_true c1, decide_eq_true c4]; rfl))
        · skip
          intro k hk ih9
          have hb4 := hT0.2.2 (q.1 + k) (by omega)
          refine r_iload_n hX dX10_isKey_27 rfl ?_
          refine r_aload_n hX dX10_isKey_28 rfl ?_
          refine r_getIV hX dX10_isKey_29 fl_X10_249 (hM.1 0 (9, 0) rfl) rfl (nI (szN q)) hl0.2.2.2.1 ?_
          refine r_icmpN_ge hX dX10_isKey_32 (by omega) (by omega) (fun c10 => absurd c10 (by omega)) (fun c10 => ?_)
          refine r_iload_n hX dX10_isKey_35 rfl ?_
          refine r_ifB_eq hX dX10_isKey_36 (fun c11 => ?_) (fun c11 => ?_)
          · skip
            refine r_iload_n hX dX10_isKey_70 rfl ?_
            exact r_zreturn hX hQ dX10_isKey_71 ⟨Nat.le_of_ble_eq_true rfl, Nat.le_of_ble_eq_true rfl⟩ (nar_bI _) (PF.mk (congrArg bI (c11.trans (Eq.symm (by unfold kyB; rw [kyL_no c11 _ (Nat.le_of_lt hk), Bool.and_false])))))
          · skip
            refine r_aload_n hX dX10_isKey_39 rfl ?_
            refine r_getR hX dX10_isKey_40 fl_X10_19 (hM.1 0 (9, 0) rfl) rfl (hM.2 4 4 rfl) ?_
            refine r_aload_n hX dX10_isKey_43 rfl ?_
            refine r_getIV hX dX10_isKey_44 fl_X10_246 (hM.1 0 (9, 0) rfl) rfl (nI q.1) hl0.2.1 ?_
            refine r_iload_n hX dX10_isKey_47 rfl ?_
            refine r_iaddN hX dX10_isKey_48 ?_
            refine r_aldN hX dX10_isKey_49 (hM.1 4 (10, 96) rfl) (by decide) (by omega) (nI (P.2 (q.1 + k))) hb4.1 ?_
            refine r_aload_n hX dX10_isKey_50 rfl ?_
            refine r_iload_n hX dX10_isKey_51 rfl ?_
            refine r_callVSt (As := [.int (nI k)]) (rest := [.int (nI (P.2 (q.1 + k)))]) hX hO (by rw [hl, hD]; exact c_J0_charAt_5068e σ hS (k := k) (by omega)) dX10_isKey_52 cb_X10_278 rfl rfl ⟨Nat.le_of_ble_eq_true rfl, Nat.le_of_ble_eq_true rfl⟩ ⟨Nat.le_of_ble_eq_true rfl, Nat.le_of_ble_eq_true rfl⟩ (Nat.le_of_ble_eq_true rfl) ?_
            refine r_icmpN_ne hX dX10_isKey_55 (by first | omega | (have := hS.2.1 k; omega)) (by first | omega | (have := hS.2.1 k; omega)) (fun c12 => ?_) (fun c12 => ?_)
            · skip
              refine r_iconst hX (nI 0) dX10_isKey_62 rfl ?_
              refine r_istore_n hX [(0, .ref (L.1 0)), (1, .ref a), (2, .int (nI 0)), (3, .int (nI k))] dX10_isKey_63 hN2 rfl ?_
              refine r_iincN (n := 1) hX [(0, .ref (L.1 0)), (1, .ref a), (2, .int (nI 0)), (3, .int (nI (k + 1)))] dX10_isKey_64 rfl hN3 rfl ?_
              refine r_goto hX dX10_isKey_67 ?_
              have q13 : bI (kyL P q.1 tx (k + 1)) = nI 0 := (by rw [kyL, decide_eq_false c12, Bool.and_false]; rfl)
              exact At.to ih9 (by rw [q13]) rfl rfl
            · skip
              refine r_iconst hX (nI 1) dX10_isKey_58 rfl ?_
              refine r_goto hX dX10_isKey_59 ?_
              refine r_istore_n hX [(0, .ref (L.1 0)), (1, .ref a), (2, .int (nI 1)), (3, .int (nI k))] dX10_isKey_63 hN2 rfl ?_
              refine r_iincN (n := 1) hX [(0, .ref (L.1 0)), (1, .ref a), (2, .int (nI 1)), (3, .int (nI (k + 1)))] dX10_isKey_64 rfl hN3 rfl ?_
              refine r_goto hX dX10_isKey_67 ?_
              have q14 : bI (kyL P q.1 tx (k + 1)) = nI 1 := (by rw [kyL, c11, decide_eq_true c12]; rfl)
              exact At.to ih9 (by rw [q14]) rfl rfl
      exact At.to (P7 0 (Nat.zero_le _)) rfl rfl rfl
