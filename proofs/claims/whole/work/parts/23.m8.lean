set_option maxHeartbeats 4000000 in
set_option maxRecDepth 100000 in
theorem c_X10_isAlikeOf {l : Launch} {D : Ds} {L : La} (hM : MAt L) (σ : Me) (A : Al) (hR : RM (σ 1) A) (hV : Va A) (o1 o2 t w : Nat) (h1 : o1 < 2 ^ 31) (h2 : o2 < 2 ^ 31) (h3 : t < 2 ^ 31) (h4 : w < 2 ^ 31) : Ct l yX10_isAlikeOf cX10_isAlikeOf 8 (some .boolean) { frames := 1, cells := 0, slots := 0, locals := 22 } D L σ [.ref (L.1 0), .int (nI o1), .int (nI o2), .int (nI t), .int (nI w)] (PF L σ (bI (alB A o1 o2 t w))) := by
  refine Ct.of (by decide) (Nat.le_of_ble_eq_true rfl) ?_
  intro X hl hD hnl hX0 hQ
  have hX : Ok X cX10_isAlikeOf RX10 "isAlikeOf" { frames := 1, cells := 0, slots := 0, locals := 22 } (some .boolean) := hX0
  have hN5 : 5 < xn X := by rw [hnl]; decide
  have hN6 : 6 < xn X := by rw [hnl]; decide
  have hN7 : 7 < xn X := by rw [hnl]; decide
  have hT := hV.1
  have hNn := hV.2.1
  have hW := hV.2.2.1
  show At X L σ 0 0 [(0, .ref (L.1 0)), (1, .int (nI o1)), (2, .int (nI o2)), (3, .int (nI t)), (4, .int (nI w))] 0 []
  refine r_iconst hX (nI 0) dX10_isAlikeOf_0 rfl ?_
  refine r_istore hX [(0, .ref (L.1 0)), (1, .int (nI o1)), (2, .int (nI o2)), (3, .int (nI t)), (4, .int (nI w)), (5, .int (nI 0))] dX10_isAlikeOf_1 hN5 rfl ?_
  have P1 : ∀ k, k ≤ aW A → ∀ (hq1 : anyB (alR A o1 o2 t w) k = false), At X L σ 0 0 [(0, .ref (L.1 0)), (1, .int (nI o1)), (2, .int (nI o2)), (3, .int (nI t)), (4, .int (nI w)), (5, .int (nI k))] 3 [] := by
    refine loopUp (aW A) ?_ ?_
    · skip
      intro hq1
      refine r_iload hX dX10_isAlikeOf_3 rfl ?_
      refine r_aload_n hX dX10_isAlikeOf_5 rfl ?_
      refine r_getR hX dX10_isAlikeOf_6 fl_X10_9 (hM.1 0 (9, 0) rfl) rfl (hM.2 0 1 rfl) ?_
      refine r_iconst hX (nI 2) dX10_isAlikeOf_9 rfl ?_
      refine r_aldN hX dX10_isAlikeOf_10 (hM.1 1 (10, 1605) rfl) (by decide) (by decide) (nI (aW A)) hR.2.2.1 ?_
      refine r_icmpN_ge hX dX10_isAlikeOf_11 (by omega) (by omega) (fun c2 => ?_) (fun c2 => absurd c2 (by omega))
      refine r_iconst hX (nI 0) dX10_isAlikeOf_137 rfl ?_
      exact r_zreturn hX hQ dX10_isAlikeOf_138 ⟨Nat.le_of_ble_eq_true rfl, Nat.le_of_ble_eq_true rfl⟩ rfl (PF.mk (bI_f hq1).symm)
    · skip
      intro k hk ih3 hq1
      have hb0 := va_sm hV hk (f := 1) (by decide)
      have hb1 := va_sm hV hk (f := 2) (by decide)
      have hb2 := va_sm hV hk (f := 3) (by decide)
      have hb3 := va_sm hV hk (f := 4) (by decide)
      refine r_iload hX dX10_isAlikeOf_3 rfl ?_
      refine r_aload_n hX dX10_isAlikeOf_5 rfl ?_
      refine r_getR hX dX10_isAlikeOf_6 fl_X10_9 (hM.1 0 (9, 0) rfl) rfl (hM.2 0 1 rfl) ?_
      refine r_iconst hX (nI 2) dX10_isAlikeOf_9 rfl ?_
      refine r_aldN hX dX10_isAlikeOf_10 (hM.1 1 (10, 1605) rfl) (by decide) (by decide) (nI (aW A)) hR.2.2.1 ?_
      refine r_icmpN_ge hX dX10_isAlikeOf_11 (by omega) (by omega) (fun c4 => absurd c4 (by omega)) (fun c4 => ?_)
      refine r_iconst hX (nI 0) dX10_isAlikeOf_14 rfl ?_
      refine r_istore hX [(0, .ref (L.1 0)), (1, .int (nI o1)), (2, .int (nI o2)), (3, .int (nI t)), (4, .int (nI w)), (5, .int (nI k)), (6, .int (nI 0))] dX10_isAlikeOf_15 hN6 rfl ?_
      have P5 : ∀ j, j ≤ aW A → ∀ (hq2 : anyB (fun b => mtB A o1 o2 t w k b) j = false), At X L σ 0 0 [(0, .ref (L.1 0)), (1, .int (nI o1)), (2, .int (nI o2)), (3, .int (nI t)), (4, .int (nI w)), (5, .int (nI k)), (6, .int (nI j))] 17 [] := by
        refine loopUp (aW A) ?_ ?_
        · skip
          intro hq2
          refine r_iload hX dX10_isAlikeOf_17 rfl ?_
          refine r_aload_n hX dX10_isAlikeOf_19 rfl ?_
          refine r_getR hX dX10_isAlikeOf_20 fl_X10_9 (hM.1 0 (9, 0) rfl) rfl (hM.2 0 1 rfl) ?_
          refine r_iconst hX (nI 2) dX10_isAlikeOf_23 rfl ?_
          refine r_aldN hX dX10_isAlikeOf_24 (hM.1 1 (10, 1605) rfl) (by decide) (by decide) (nI (aW A)) hR.2.2.1 ?_
          refine r_icmpN_ge hX dX10_isAlikeOf_25 (by omega) (by omega) (fun c6 => ?_) (fun c6 => absurd c6 (by omega))
          refine r_iincN (n := 1) hX [(0, .ref (L.1 0)), (1, .int (nI o1)), (2, .int (nI o2)), (3, .int (nI t)), (4, .int (nI w)), (5, .int (nI (k + 1))), (6, .int (nI (aW A)))] dX10_isAlikeOf_131 rfl hN5 rfl ?_
          refine r_goto hX dX10_isAlikeOf_134 ?_
          exact At.less (At.to (ls := [(0, .ref (L.1 0)), (1, .int (nI o1)), (2, .int (nI o2)), (3, .int (nI t)), (4, .int (nI w)), (5, .int (nI (k + 1)))]) (ih3 (anyB_s hq1 hq2)) rfl rfl rfl) (by simp)
        · skip
          intro j hj ih7 hq2
          have hd1 := va_sm hV hj (f := 1) (by decide)
          have hd2 := va_sm hV hj (f := 2) (by decide)
          have hd3 := va_sm hV hj (f := 3) (by decide)
          have hd4 := va_sm hV hj (f := 4) (by decide)
          refine r_iload hX dX10_isAlikeOf_17 rfl ?_
          refine r_aload_n hX dX10_isAlikeOf_19 rfl ?_
          refine r_getR hX dX10_isAlikeOf_20 fl_X10_9 (hM.1 0 (9, 0) rfl) rfl (hM.2 0 1 rfl) ?_
          refine r_iconst hX (nI 2) dX10_isAlikeOf_23 rfl ?_
          refine r_aldN hX dX10_isAlikeOf_24 (hM.1 1 (10, 1605) rfl) (by decide) (by decide) (nI (aW A)) hR.2.2.1 ?_
          refine r_icmpN_ge hX dX10_isAlikeOf_25 (by omega) (by omega) (fun c8 => absurd c8 (by omega)) (fun c8 => ?_)
          refine r_aload_n hX dX10_isAlikeOf_28 rfl ?_
          refine r_iload hX dX10_isAlikeOf_29 rfl ?_
          refine r_iconst hX (nI 2) dX10_isAlikeOf_31 rfl ?_
          refine r_callVF (As := [.int (nI k), .int (nI 2)]) (rest := []) hX (c_X10_ofA hM σ A hR hV k 2 (by omega) (by omega)) dX10_isAlikeOf_32 cb_X10_74 (hM.1 0 (9, 0) rfl) rfl rfl ⟨Nat.le_of_ble_eq_true rfl, Nat.le_of_ble_eq_true rfl⟩ ⟨Nat.le_of_ble_eq_true rfl, Nat.le_of_ble_eq_true rfl⟩ (Nat.le_of_ble_eq_true rfl) ?_
          refine r_iload_n hX dX10_isAlikeOf_35 rfl ?_
          refine r_icmpN_ne hX dX10_isAlikeOf_36 (by omega) (by omega) (fun c9 => ?_) (fun c9 => ?_)
          · skip
            refine r_iconst hX (nI 0) dX10_isAlikeOf_76 rfl ?_
            refine r_istore hX [(0, .ref (L.1 0)), (1, .int (nI o1)), (2, .int (nI o2)), (3, .int (nI t)), (4, .int (nI w)), (5, .int (nI k)), (6, .int (nI j)), (7, .int (nI 0))] dX10_isAlikeOf_77 hN7 rfl ?_
            refine r_iload hX dX10_isAlikeOf_79 rfl ?_
            refine r_ifN_eq hX dX10_isAlikeOf_81 (by decide) (fun c10 => ?_) (fun c10 => absurd c10 (by decide))
            refine r_iincN (n := 1) hX [(0, .ref (L.1 0)), (1, .int (nI o1)), (2, .int (nI o2)), (3, .int (nI t)), (4, .int (nI w)), (5, .int (nI k)), (6, .int (nI (j + 1))), (7, .int (nI 0))] dX10_isAlikeOf_125 rfl hN6 rfl ?_
            refine r_goto hX dX10_isAlikeOf_128 ?_
            exact At.less (At.to (ls := [(0, .ref (L.1 0)), (1, .int (nI o1)), (2, .int (nI o2)), (3, .int (nI t)), (4, .int (nI w)), (5, .int (nI k)), (6, .int (nI (j + 1)))]) (ih7 (anyB_s hq2 (by clear ih7 ih3 hQ hX hX0 hN5 hN6 hN7 hl hD hnl; unfold mtB; grind))) rfl rfl rfl) (by simp)
          · skip
            refine r_aload_n hX dX10_isAlikeOf_39 rfl ?_
            refine r_iload hX dX10_isAlikeOf_40 rfl ?_
            refine r_iconst hX (nI 2) dX10_isAlikeOf_42 rfl ?_
            refine r_callVF (As := [.int (nI j), .int (nI 2)]) (rest := []) hX (c_X10_ofA hM σ A hR hV j 2 (by omega) (by omega)) dX10_isAlikeOf_43 cb_X10_74 (hM.1 0 (9, 0) rfl) rfl rfl ⟨Nat.le_of_ble_eq_true rfl, Nat.le_of_ble_eq_true rfl⟩ ⟨Nat.le_of_ble_eq_true rfl, Nat.le_of_ble_eq_true rfl⟩ (Nat.le_of_ble_eq_true rfl) ?_
            refine r_iload_n hX dX10_isAlikeOf_46 rfl ?_
            refine r_icmpN_ne hX dX10_isAlikeOf_47 (by omega) (by omega) (fun c11 => ?_) (fun c11 => ?_)
            · skip
              refine r_iconst hX (nI 0) dX10_isAlikeOf_76 rfl ?_
              refine r_istore hX [(0, .ref (L.1 0)), (1, .int (nI o1)), (2, .int (nI o2)), (3, .int (nI t)), (4, .int (nI w)), (5, .int (nI k)), (6, .int (nI j)), (7, .int (nI 0))] dX10_isAlikeOf_77 hN7 rfl ?_
              refine r_iload hX dX10_isAlikeOf_79 rfl ?_
              refine r_ifN_eq hX dX10_isAlikeOf_81 (by decide) (fun c12 => ?_) (fun c12 => absurd c12 (by decide))
              refine r_iincN (n := 1) hX [(0, .ref (L.1 0)), (1, .int (nI o1)), (2, .int (nI o2)), (3, .int (nI t)), (4, .int (nI w)), (5, .int (nI k)), (6, .int (nI (j + 1))), (7, .int (nI 0))] dX10_isAlikeOf_125 rfl hN6 rfl ?_
              refine r_goto hX dX10_isAlikeOf_128 ?_
              exact At.less (At.to (ls := [(0, .ref (L.1 0)), (1, .int (nI o1)), (2, .int (nI o2)), (3, .int (nI t)), (4, .int (nI w)), (5, .int (nI k)), (6, .int (nI (j + 1)))]) (ih7 (anyB_s hq2 (by clear ih7 ih3 hQ hX hX0 hN5 hN6 hN7 hl hD hnl; unfold mtB; grind))) rfl rfl rfl) (by simp)
            · skip
              refine r_aload_n hX dX10_isAlikeOf_50 rfl ?_
              refine r_iload hX dX10_isAlikeOf_51 rfl ?_
              refine r_iconst hX (nI 1) dX10_isAlikeOf_53 rfl ?_
              refine r_callVF (As := [.int (nI k), .int (nI 1)]) (rest := []) hX (c_X10_ofA hM σ A hR hV k 1 (by omega) (by omega)) dX10_isAlikeOf_54 cb_X10_74 (hM.1 0 (9, 0) rfl) rfl rfl ⟨Nat.le_of_ble_eq_true rfl, Nat.le_of_ble_eq_true rfl⟩ ⟨Nat.le_of_ble_eq_true rfl, Nat.le_of_ble_eq_true rfl⟩ (Nat.le_of_ble_eq_true rfl) ?_
              refine r_iload_n hX dX10_isAlikeOf_57 rfl ?_
              refine r_icmpN_ne hX dX10_isAlikeOf_58 (by omega) (by omega) (fun c13 => ?_) (fun c13 => ?_)
              · skip
                refine r_iconst hX (nI 0) dX10_isAlikeOf_76 rfl ?_
                refine r_istore hX [(0, .ref (L.1 0)), (1, .int (nI o1)), (2, .int (nI o2)), (3, .int (nI t)), (4, .int (nI w)), (5, .int (nI k)), (6, .int (nI j)), (7, .int (nI 0))] dX10_isAlikeOf_77 hN7 rfl ?_
                refine r_iload hX dX10_isAlikeOf_79 rfl ?_
                refine r_ifN_eq hX dX10_isAlikeOf_81 (by decide) (fun c14 => ?_) (fun c14 => absurd c14 (by decide))
                refine r_iincN (n := 1) hX [(0, .ref (L.1 0)), (1, .int (nI o1)), (2, .int (nI o2)), (3, .int (nI t)), (4, .int (nI w)), (5, .int (nI k)), (6, .int (nI (j + 1))), (7, .int (nI 0))] dX10_isAlikeOf_125 rfl hN6 rfl ?_
                refine r_goto hX dX10_isAlikeOf_128 ?_
                exact At.less (At.to (ls := [(0, .ref (L.1 0)), (1, .int (nI o1)), (2, .int (nI o2)), (3, .int (nI t)), (4, .int (nI w)), (5, .int (nI k)), (6, .int (nI (j + 1)))]) (ih7 (anyB_s hq2 (by clear ih7 ih3 hQ hX hX0 hN5 hN6 hN7 hl hD hnl; unfold mtB; grind))) rfl rfl rfl) (by simp)
              · skip
                refine r_aload_n hX dX10_isAlikeOf_61 rfl ?_
                refine r_iload hX dX10_isAlikeOf_62 rfl ?_
                refine r_iconst hX (nI 1) dX10_isAlikeOf_64 rfl ?_
                refine r_callVF (As := [.int (nI j), .int (nI 1)]) (rest := []) hX (c_X10_ofA hM σ A hR hV j 1 (by omega) (by omega)) dX10_isAlikeOf_65 cb_X10_74 (hM.1 0 (9, 0) rfl) rfl rfl ⟨Nat.le_of_ble_eq_true rfl, Nat.le_of_ble_eq_true rfl⟩ ⟨Nat.le_of_ble_eq_true rfl, Nat.le_of_ble_eq_true rfl⟩ (Nat.le_of_ble_eq_true rfl) ?_
                refine r_iload_n hX dX10_isAlikeOf_68 rfl ?_
                refine r_icmpN_ne hX dX10_isAlikeOf_69 (by omega) (by omega) (fun c15 => ?_) (fun c15 => ?_)
                · skip
                  refine r_iconst hX (nI 0) dX10_isAlikeOf_76 rfl ?_
                  refine r_istore hX [(0, .ref (L.1 0)), (1, .int (nI o1)), (2, .int (nI o2)), (3, .int (nI t)), (4, .int (nI w)), (5, .int (nI k)), (6, .int (nI j)), (7, .int (nI 0))] dX10_isAlikeOf_77 hN7 rfl ?_
                  refine r_iload hX dX10_isAlikeOf_79 rfl ?_
                  refine r_ifN_eq hX dX10_isAlikeOf_81 (by decide) (fun c16 => ?_) (fun c16 => absurd c16 (by decide))
                  refine r_iincN (n := 1) hX [(0, .ref (L.1 0)), (1, .int (nI o1)), (2, .int (nI o2)), (3, .int (nI t)), (4, .int (nI w)), (5, .int (nI k)), (6, .int (nI (j + 1))), (7, .int (nI 0))] dX10_isAlikeOf_125 rfl hN6 rfl ?_
                  refine r_goto hX dX10_isAlikeOf_128 ?_
                  exact At.less (At.to (ls := [(0, .ref (L.1 0)), (1, .int (nI o1)), (2, .int (nI o2)), (3, .int (nI t)), (4, .int (nI w)), (5, .int (nI k)), (6, .int (nI (j + 1)))]) (ih7 (anyB_s hq2 (by clear ih7 ih3 hQ hX hX0 hN5 hN6 hN7 hl hD hnl; unfold mtB; grind))) rfl rfl rfl) (by simp)
                · skip
                  refine r_iconst hX (nI 1) dX10_isAlikeOf_72 rfl ?_
                  refine r_goto hX dX10_isAlikeOf_73 ?_
                  refine r_istore hX [(0, .ref (L.1 0)), (1, .int (nI o1)), (2, .int (nI o2)), (3, .int (nI t)), (4, .int (nI w)), (5, .int (nI k)), (6, .int (nI j)), (7, .int (nI 1))] dX10_isAlikeOf_77 hN7 rfl ?_
                  refine r_iload hX dX10_isAlikeOf_79 rfl ?_
                  refine r_ifN_eq hX dX10_isAlikeOf_81 (by decide) (fun c17 => absurd c17 (by decide)) (fun c17 => ?_)
                  refine r_aload_n hX dX10_isAlikeOf_84 rfl ?_
                  refine r_iload hX dX10_isAlikeOf_85 rfl ?_
                  refine r_iconst hX (nI 4) dX10_isAlikeOf_87 rfl ?_
                  refine r_callVF (As := [.int (nI k), .int (nI 4)]) (rest := []) hX (c_X10_ofA hM σ A hR hV k 4 (by omega) (by omega)) dX10_isAlikeOf_88 cb_X10_74 (hM.1 0 (9, 0) rfl) rfl rfl ⟨Nat.le_of_ble_eq_true rfl, Nat.le_of_ble_eq_true rfl⟩ ⟨Nat.le_of_ble_eq_true rfl, Nat.le_of_ble_eq_true rfl⟩ (Nat.le_of_ble_eq_true rfl) ?_
                  refine r_aload_n hX dX10_isAlikeOf_91 rfl ?_
                  refine r_iload hX dX10_isAlikeOf_92 rfl ?_
                  refine r_iconst hX (nI 4) dX10_isAlikeOf_94 rfl ?_
                  refine r_callVF (As := [.int (nI j), .int (nI 4)]) (rest := [.int (nI (aF A k 4))]) hX (c_X10_ofA hM σ A hR hV j 4 (by omega) (by omega)) dX10_isAlikeOf_95 cb_X10_74 (hM.1 0 (9, 0) rfl) rfl rfl ⟨Nat.le_of_ble_eq_true rfl, Nat.le_of_ble_eq_true rfl⟩ ⟨Nat.le_of_ble_eq_true rfl, Nat.le_of_ble_eq_true rfl⟩ (Nat.le_of_ble_eq_true rfl) ?_
                  refine r_icmpN_ne hX dX10_isAlikeOf_98 (by omega) (by omega) (fun c18 => ?_) (fun c18 => ?_)
                  · skip
                    refine r_iincN (n := 1) hX [(0, .ref (L.1 0)), (1, .int (nI o1)), (2, .int (nI o2)), (3, .int (nI t)), (4, .int (nI w)), (5, .int (nI k)), (6, .int (nI (j + 1))), (7, .int (nI 1))] dX10_isAlikeOf_125 rfl hN6 rfl ?_
                    refine r_goto hX dX10_isAlikeOf_128 ?_
                    exact At.less (At.to (ls := [(0, .ref (L.1 0)), (1, .int (nI o1)), (2, .int (nI o2)), (3, .int (nI t)), (4, .int (nI w)), (5, .int (nI k)), (6, .int (nI (j + 1)))]) (ih7 (anyB_s hq2 (by clear ih7 ih3 hQ hX hX0 hN5 hN6 hN7 hl hD hnl; unfold mtB; grind))) rfl rfl rfl) (by simp)
                  · skip
                    refine r_aload_n hX dX10_isAlikeOf_101 rfl ?_
                    refine r_iload hX dX10_isAlikeOf_102 rfl ?_
                    refine r_iconst hX (nI 3) dX10_isAlikeOf_104 rfl ?_
                    refine r_callVF (As := [.int (nI k), .int (nI 3)]) (rest := []) hX (c_X10_ofA hM σ A hR hV k 3 (by omega) (by omega)) dX10_isAlikeOf_105 cb_X10_74 (hM.1 0 (9, 0) rfl) rfl rfl ⟨Nat.le_of_ble_eq_true rfl, Nat.le_of_ble_eq_true rfl⟩ ⟨Nat.le_of_ble_eq_true rfl, Nat.le_of_ble_eq_true rfl⟩ (Nat.le_of_ble_eq_true rfl) ?_
                    refine r_aload_n hX dX10_isAlikeOf_108 rfl ?_
                    refine r_iload hX dX10_isAlikeOf_109 rfl ?_
                    refine r_iconst hX (nI 3) dX10_isAlikeOf_111 rfl ?_
                    refine r_callVF (As := [.int (nI j), .int (nI 3)]) (rest := [.int (nI (aF A k 3))]) hX (c_X10_ofA hM σ A hR hV j 3 (by omega) (by omega)) dX10_isAlikeOf_112 cb_X10_74 (hM.1 0 (9, 0) rfl) rfl rfl ⟨Nat.le_of_ble_eq_true rfl, Nat.le_of_ble_eq_true rfl⟩ ⟨Nat.le_of_ble_eq_true rfl, Nat.le_of_ble_eq_true rfl⟩ (Nat.le_of_ble_eq_true rfl) ?_
                    refine r_callSF (As := [.int (nI (aF A k 3)), .int (nI (aF A j 3))]) (rest := []) hX (c_X10_apart σ (aF A k 3) (aF A j 3) (by omega) (by omega)) dX10_isAlikeOf_115 cb_X10_196 rfl rfl ⟨Nat.le_of_ble_eq_true rfl, Nat.le_of_ble_eq_true rfl⟩ ⟨Nat.le_of_ble_eq_true rfl, Nat.le_of_ble_eq_true rfl⟩ (Nat.le_of_ble_eq_true rfl) ?_
                    refine r_iload hX dX10_isAlikeOf_118 rfl ?_
                    refine r_icmpN_gt hX dX10_isAlikeOf_120 (by unfold apN; split <;> omega) (by omega) (fun c19 => ?_) (fun c19 => ?_)
                    · skip
                      refine r_iincN (n := 1) hX [(0, .ref (L.1 0)), (1, .int (nI o1)), (2, .int (nI o2)), (3, .int (nI t)), (4, .int (nI w)), (5, .int (nI k)), (6, .int (nI (j + 1))), (7, .int (nI 1))] dX10_isAlikeOf_125 rfl hN6 rfl ?_
                      refine r_goto hX dX10_isAlikeOf_128 ?_
                      exact At.less (At.to (ls := [(0, .ref (L.1 0)), (1, .int (nI o1)), (2, .int (nI o2)), (3, .int (nI t)), (4, .int (nI w)), (5, .int (nI k)), (6, .int (nI (j + 1)))]) (ih7 (anyB_s hq2 (by clear ih7 ih3 hQ hX hX0 hN5 hN6 hN7 hl hD hnl; unfold mtB; grind))) rfl rfl rfl) (by simp)
                    · skip
                      refine r_iconst hX (nI 1) dX10_isAlikeOf_123 rfl ?_
                      exact r_zreturn hX hQ dX10_isAlikeOf_124 ⟨Nat.le_of_ble_eq_true rfl, Nat.le_of_ble_eq_true rfl⟩ rfl (PF.mk (bI_t (anyB_of (p := alR A o1 o2 t w) (k := k) (anyB_of (p := fun b => mtB A o1 o2 t w k b) (k := j) (by clear ih7 ih3 hQ hX hX0 hN5 hN6 hN7 hl hD hnl; unfold mtB; grind) hj) hk)).symm)
      exact At.to (P5 0 (Nat.zero_le _) rfl) rfl rfl rfl
  exact At.to (P1 0 (Nat.zero_le _) rfl) rfl rfl rfl

set_option maxHeartbeats 4000000 in
set_option maxRecDepth 100000 in
theorem c_X10_alikes {l : Launch} {D : Ds} {L : La} (hM : MAt L) (σ : Me) (A : Al) (hR : RM (σ 1) A) (hV : Va A) (o1 o2 w : Nat) (h1 : o1 < 2 ^ 31) (h2 : o2 < 2 ^ 31) (h4 : w < 2 ^ 31) : Ct l yX10_alikes cX10_alikes 6 (some .int) { frames := 2, cells := 0, slots := 0, locals := 49 } D L σ [.ref (L.1 0), .int (nI o1), .int (nI o2), .int (nI w)] (PF L σ (nI (alN A o1 o2 w))) := by
  refine Ct.of (by decide) (Nat.le_of_ble_eq_true rfl) ?_
  intro X hl hD hnl hX0 hQ
  have hX : Ok X cX10_alikes RX10 "alikes" { frames := 2, cells := 0, slots := 0, locals := 49 } (some .int) := hX0
  have hN4 : 4 < xn X := by rw [hnl]; decide
  have hN5 : 5 < xn X := by rw [hnl]; decide
  have hT := hV.1
  have hNn := hV.2.1
  have hW := hV.2.2.1
  show At X L σ 0 0 [(0, .ref (L.1 0)), (1, .int (nI o1)), (2, .int (nI o2)), (3, .int (nI w))] 0 []
  refine r_iconst hX (nI 0) dX10_alikes_0 rfl ?_
  refine r_istore hX [(0, .ref (L.1 0)), (1, .int (nI o1)), (2, .int (nI o2)), (3, .int (nI w)), (4, .int (nI 0))] dX10_alikes_1 hN4 rfl ?_
  refine r_iconst hX (nI 0) dX10_alikes_3 rfl ?_
  refine r_istore hX [(0, .ref (L.1 0)), (1, .int (nI o1)), (2, .int (nI o2)), (3, .int (nI w)), (4, .int (nI 0)), (5, .int (nI 0))] dX10_alikes_4 hN5 rfl ?_
  have P1 : ∀ k, k ≤ aT A → At X L σ 0 0 [(0, .ref (L.1 0)), (1, .int (nI o1)), (2, .int (nI o2)), (3, .int (nI w)), (4, .int (nI (cntB (fun t => alB A o1 o2 t w) k))), (5, .int (nI k))] 6 [] := by
    refine loopUp (aT A) ?_ ?_
    · skip
      refine r_iload hX dX10_alikes_6 rfl ?_
      refine r_aload_n hX dX10_alikes_8 rfl ?_
      refine r_getR hX dX10_alikes_9 fl_X10_9 (hM.1 0 (9, 0) rfl) rfl (hM.2 0 1 rfl) ?_
      refine r_iconst hX (nI 0) dX10_alikes_12 rfl ?_
      refine r_aldN hX dX10_alikes_13 (hM.1 1 (10, 1605) rfl) (by decide) (by decide) (nI (aT A)) hR.1 ?_
      refine r_icmpN_ge hX dX10_alikes_14 (by omega) (by omega) (fun c2 => ?_) (fun c2 => absurd c2 (by omega))
      refine r_iload hX dX10_alikes_45 rfl ?_
      exact r_ireturn hX hQ dX10_alikes_47 ⟨Nat.le_of_ble_eq_true rfl, Nat.le_of_ble_eq_true rfl⟩ (PF.mk rfl)
    · skip
      intro k hk ih3
      refine r_iload hX dX10_alikes_6 rfl ?_
      refine r_aload_n hX dX10_alikes_8 rfl ?_
      refine r_getR hX dX10_alikes_9 fl_X10_9 (hM.1 0 (9, 0) rfl) rfl (hM.2 0 1 rfl) ?_
      refine r_iconst hX (nI 0) dX10_alikes_12 rfl ?_
      refine r_aldN hX dX10_alikes_13 (hM.1 1 (10, 1605) rfl) (by decide) (by decide) (nI (aT A)) hR.1 ?_
      refine r_icmpN_ge hX dX10_alikes_14 (by omega) (by omega) (fun c4 => absurd c4 (by omega)) (fun c4 => ?_)
      refine r_iload hX dX10_alikes_17 rfl ?_
      refine r_aload_n hX dX10_alikes_19 rfl ?_
      refine r_iload_n hX dX10_alikes_20 rfl ?_
      refine r_iload_n hX dX10_alikes_21 rfl ?_
      refine r_iload hX dX10_alikes_22 rfl ?_
      refine r_iload_n hX dX10_alikes_24 rfl ?_
      refine r_callVF (As := [.int (nI o1), .int (nI o2), .int (nI k), .int (nI w)]) (rest := [.int (nI (cntB (fun t => alB A o1 o2 t w) k))]) hX (c_X10_isAlikeOf hM σ A hR hV o1 o2 k w (by omega) (by omega) (by omega) (by omega)) dX10_alikes_25 cb_X10_199 (hM.1 0 (9, 0) rfl) rfl rfl ⟨Nat.le_of_ble_eq_true rfl, Nat.le_of_ble_eq_true rfl⟩ ⟨Nat.le_of_ble_eq_true rfl, Nat.le_of_ble_eq_true rfl⟩ (Nat.le_of_ble_eq_true rfl) ?_
      refine r_ifB_eq hX dX10_alikes_28 (fun c5 => ?_) (fun c5 => ?_)
      · skip
        refine r_iconst hX (nI 0) dX10_alikes_35 rfl ?_
        refine r_iaddN hX dX10_alikes_36 ?_
        refine r_istore hX [(0, .ref (L.1 0)), (1, .int (nI o1)), (2, .int (nI o2)), (3, .int (nI w)), (4, .int (nI ((cntB (fun t => alB A o1 o2 t w) k) + 0))), (5, .int (nI k))] dX10_alikes_37 hN4 rfl ?_
        refine r_iincN (n := 1) hX [(0, .ref (L.1 0)), (1, .int (nI o1)), (2, .int (nI o2)), (3, .int (nI w)), (4, .int (nI ((cntB (fun t => alB A o1 o2 t w) k) + 0))), (5, .int (nI (k + 1)))] dX10_alikes_39 rfl hN5 rfl ?_
        refine r_goto hX dX10_alikes_42 ?_
        have q6 : cntB (fun t => alB A o1 o2 t w) (k + 1) = (cntB (fun t => alB A o1 o2 t w) k) + 0 := (by rw [cntB, if_neg (by rw [c5]; decide)])
        exact At.to ih3 (by rw [q6]) rfl rfl
      · skip
        refine r_iconst hX (nI 1) dX10_alikes_31 rfl ?_
        refine r_goto hX dX10_alikes_32 ?_
        refine r_iaddN hX dX10_alikes_36 ?_
        refine r_istore hX [(0, .ref (L.1 0)), (1, .int (nI o1)), (2, .int (nI o2)), (3, .int (nI w)), (4, .int (nI ((cntB (fun t => alB A o1 o2 t w) k) + 1))), (5, .int (nI k))] dX10_alikes_37 hN4 rfl ?_
        refine r_iincN (n := 1) hX [(0, .ref (L.1 0)), (1, .int (nI o1)), (2, .int (nI o2)), (3, .int (nI w)), (4, .int (nI ((cntB (fun t => alB A o1 o2 t w) k) + 1))), (5, .int (nI (k + 1)))] dX10_alikes_39 rfl hN5 rfl ?_
        refine r_goto hX dX10_alikes_42 ?_
        have q7 : cntB (fun t => alB A o1 o2 t w) (k + 1) = (cntB (fun t => alB A o1 o2 t w) k) + 1 := (by rw [cntB, if_pos c5])
        exact At.to ih3 (by rw [q7]) rfl rfl
  exact At.to (P1 0 (Nat.zero_le _)) rfl rfl rfl

set_option maxHeartbeats 4000000 in
set_option maxRecDepth 100000 in
theorem c_X10_alike {l : Launch} {D : Ds} {L : La} (hM : MAt L) (σ : Me) (A : Al) (hR : RM (σ 1) A) (hV : Va A) (one other w : Int32) : Ct l yX10_alike cX10_alike 4 (some .int) { frames := 3, cells := 0, slots := 0, locals := 74 } D L σ [.ref (L.1 0), .int one, .int other, .int w] (PF L σ (oAlike A one other w)) := by
  refine Ct.of (by decide) (Nat.le_of_ble_eq_true rfl) ?_
  intro X hl hD hnl hX0 hQ
  have hX : Ok X cX10_alike RX10 "alike" { frames := 3, cells := 0, slots := 0, locals := 74 } (some .int) := hX0
  have hT := hV.1
  have hNn := hV.2.1
  have hW := hV.2.2.1
  show At X L σ 0 0 [(0, .ref (L.1 0)), (1, .int one), (2, .int other), (3, .int w)] 0 []
  refine r_aload_n hX dX10_alike_0 rfl ?_
  refine r_iload_n hX dX10_alike_1 rfl ?_
  refine r_callVF (As := [.int one]) (rest := []) hX (c_X10_isName hM σ A hR one) dX10_alike_2 cb_X10_89 (hM.1 0 (9, 0) rfl) rfl rfl ⟨Nat.le_of_ble_eq_true rfl, Nat.le_of_ble_eq_true rfl⟩ ⟨Nat.le_of_ble_eq_true rfl, Nat.le_of_ble_eq_true rfl⟩ (Nat.le_of_ble_eq_true rfl) ?_
  refine r_ifB_eq hX dX10_alike_5 (fun c1 => ?_) (fun c1 => ?_)
  · skip
    refine r_ldc hX dX10_alike_42 ko_X10_72 ?_
    exact r_ireturn hX hQ dX10_alike_44 ⟨Nat.le_of_ble_eq_true rfl, Nat.le_of_ble_eq_true rfl⟩ (PF.mk (by rw [oAlike, if_neg (fun e => by have e := e.1; rw [c1] at e; cases e)]))
  · skip
    obtain ⟨a, ha, rfl⟩ := isB_nat c1 (by omega)
    refine r_aload_n hX dX10_alike_8 rfl ?_
    refine r_iload_n hX dX10_alike_9 rfl ?_
    refine r_callVF (As := [.int other]) (rest := []) hX (c_X10_isName hM σ A hR other) dX10_alike_10 cb_X10_89 (hM.1 0 (9, 0) rfl) rfl rfl ⟨Nat.le_of_ble_eq_true rfl, Nat.le_of_ble_eq_true rfl⟩ ⟨Nat.le_of_ble_eq_true rfl, Nat.le_of_ble_eq_true rfl⟩ (Nat.le_of_ble_eq_true rfl) ?_
    refine r_ifB_eq hX dX10_alike_13 (fun c2 => ?_) (fun c2 => ?_)
    · skip
      refine r_ldc hX dX10_alike_42 ko_X10_72 ?_
      exact r_ireturn hX hQ dX10_alike_44 ⟨Nat.le_of_ble_eq_true rfl, Nat.le_of_ble_eq_true rfl⟩ (PF.mk (by rw [oAlike, if_neg (fun e => by have e := e.2.1; rw [c2] at e; cases e)]))
    · skip
      obtain ⟨b, hb, rfl⟩ := isB_nat c2 (by omega)
      refine r_iload_n hX dX10_alike_16 rfl ?_
      refine r_iload_n hX dX10_alike_17 rfl ?_
      refine r_icmpN_eq hX dX10_alike_18 (by omega) (by omega) (fun c3 => ?_) (fun c3 => ?_)
      · skip
        refine r_ldc hX dX10_alike_42 ko_X10_72 ?_
        exact r_ireturn hX hQ dX10_alike_44 ⟨Nat.le_of_ble_eq_true rfl, Nat.le_of_ble_eq_true rfl⟩ (PF.mk (by rw [oAlike, if_neg (fun e => e.2.2.1 (by rw [c3]))]))
      · skip
        refine r_iload_n hX dX10_alike_21 rfl ?_
        refine r_iconst hX (nI 0) dX10_alike_22 rfl ?_
        refine r_sipush hX (nI 999) dX10_alike_23 rfl ?_
        refine r_callSF (As := [.int w, .int (nI 0), .int (nI 999)]) (rest := []) hX (c_X10_in σ w (nI 0) (nI 999)) dX10_alike_26 cb_X10_68 rfl rfl ⟨Nat.le_of_ble_eq_true rfl, Nat.le_of_ble_eq_true rfl⟩ ⟨Nat.le_of_ble_eq_true rfl, Nat.le_of_ble_eq_true rfl⟩ (Nat.le_of_ble_eq_true rfl) ?_
        refine r_ifB_eq hX dX10_alike_29 (fun c4 => ?_) (fun c4 => ?_)
        · skip
          refine r_ldc hX dX10_alike_42 ko_X10_72 ?_
          exact r_ireturn hX hQ dX10_alike_44 ⟨Nat.le_of_ble_eq_true rfl, Nat.le_of_ble_eq_true rfl⟩ (PF.mk (by rw [oAlike, if_neg (fun e => by have e := e.2.2.2; rw [c4] at e; cases e)]))
        · skip
          obtain ⟨q, hql, hq, rfl⟩ := inB_nat c4 (by decide) (by decide)
          refine r_aload_n hX dX10_alike_32 rfl ?_
          refine r_iload_n hX dX10_alike_33 rfl ?_
          refine r_iload_n hX dX10_alike_34 rfl ?_
          refine r_iload_n hX dX10_alike_35 rfl ?_
          refine r_callVF (As := [.int (nI a), .int (nI b), .int (nI q)]) (rest := []) hX (c_X10_alikes hM σ A hR hV a b q (by omega) (by omega) (by omega)) dX10_alike_36 cb_X10_203 (hM.1 0 (9, 0) rfl) rfl rfl ⟨Nat.le_of_ble_eq_true rfl, Nat.le_of_ble_eq_true rfl⟩ ⟨Nat.le_of_ble_eq_true rfl, Nat.le_of_ble_eq_true rfl⟩ (Nat.le_of_ble_eq_true rfl) ?_
          refine r_goto hX dX10_alike_39 ?_
          exact r_ireturn hX hQ dX10_alike_44 ⟨Nat.le_of_ble_eq_true rfl, Nat.le_of_ble_eq_true rfl⟩ (PF.mk (by rw [oAlike, if_pos ⟨c1, c2, fun e => c3 ((nI_eq (by omega) (by omega)).mp e), c4⟩, nI_clamp (by omega), nI_clamp (by omega), nI_clamp (by omega)]))

set_option maxHeartbeats 4000000 in
set_option maxRecDepth 100000 in
theorem c_X10_within {l : Launch} {D : Ds} {L : La} (hM : MAt L) (σ : Me) (A : Al) (hR : RM (σ 1) A) (hV : Va A) (f w : Nat) (hf : f < 2 ^ 30) (hw1 : 1 ≤ w) (hw2 : w < 2 ^ 30) : Ct l yX10_within cX10_within 5 (some .int) { frames := 1, cells := 0, slots := 0, locals := 22 } D L σ [.ref (L.1 0), .int (nI f), .int (nI w)] (PF L σ (nI (wiN A f w (aW A)))) := by
  refine Ct.of (by decide) (Nat.le_of_ble_eq_true rfl) ?_
  intro X hl hD hnl hX0 hQ
  have hX : Ok X cX10_within RX10 "within" { frames := 1, cells := 0, slots := 0, locals := 22 } (some .int) := hX0
  have hN3 : 3 < xn X := by rw [hnl]; decide
  have hN4 : 4 < xn X := by rw [hnl]; decide
  have hT := hV.1
  have hNn := hV.2.1
  have hW := hV.2.2.1
  show At X L σ 0 0 [(0, .ref (L.1 0)), (1, .int (nI f)), (2, .int (nI w))] 0 []
  refine r_iconst hX (nI 0) dX10_within_0 rfl ?_
  refine r_istore_n hX [(0, .ref (L.1 0)), (1, .int (nI f)), (2, .int (nI w)), (3, .int (nI 0))] dX10_within_1 hN3 rfl ?_
  refine r_iconst hX (nI 0) dX10_within_2 rfl ?_
  refine r_istore hX [(0, .ref (L.1 0)), (1, .int (nI f)), (2, .int (nI w)), (3, .int (nI 0)), (4, .int (nI 0))] dX10_within_3 hN4 rfl ?_
  have P1 : ∀ k, k ≤ aW A → At X L σ 0 0 [(0, .ref (L.1 0)), (1, .int (nI f)), (2, .int (nI w)), (3, .int (nI (wiN A f w k))), (4, .int (nI k))] 5 [] := by
    refine loopUp (aW A) ?_ ?_
    · skip
      refine r_iload hX dX10_within_5 rfl ?_
      refine r_aload_n hX dX10_within_7 rfl ?_
      refine r_getR hX dX10_within_8 fl_X10_9 (hM.1 0 (9, 0) rfl) rfl (hM.2 0 1 rfl) ?_
      refine r_iconst hX (nI 2) dX10_within_11 rfl ?_
      refine r_aldN hX dX10_within_12 (hM.1 1 (10, 1605) rfl) (by decide) (by decide) (nI (aW A)) hR.2.2.1 ?_
      refine r_icmpN_ge hX dX10_within_13 (by omega) (by omega) (fun c2 => ?_) (fun c2 => absurd c2 (by omega))
      refine r_iload_n hX dX10_within_49 rfl ?_
      exact r_ireturn hX hQ dX10_within_50 ⟨Nat.le_of_ble_eq_true rfl, Nat.le_of_ble_eq_true rfl⟩ (PF.mk rfl)
    · skip
      intro k hk ih3
      have hb := va_sm hV hk (f := 3) (by decide)
      have hin := in_wi (h := aF A k 3) (f := f) (by omega) hf hw1 hw2
      refine r_iload hX dX10_within_5 rfl ?_
      refine r_aload_n hX dX10_within_7 rfl ?_
      refine r_getR hX dX10_within_8 fl_X10_9 (hM.1 0 (9, 0) rfl) rfl (hM.2 0 1 rfl) ?_
      refine r_iconst hX (nI 2) dX10_within_11 rfl ?_
      refine r_aldN hX dX10_within_12 (hM.1 1 (10, 1605) rfl) (by decide) (by decide) (nI (aW A)) hR.2.2.1 ?_
      refine r_icmpN_ge hX dX10_within_13 (by omega) (by omega) (fun c4 => absurd c4 (by omega)) (fun c4 => ?_)
      refine r_iload_n hX dX10_within_16 rfl ?_
      refine r_aload_n hX dX10_within_17 rfl ?_
      refine r_iload hX dX10_within_18 rfl ?_
      refine r_iconst hX (nI 3) dX10_within_20 rfl ?_
      refine r_callVF (As := [.int (nI k), .int (nI 3)]) (rest := [.int (nI (wiN A f w k))]) hX (c_X10_ofA hM σ A hR hV k 3 (by omega) (by omega)) dX10_within_21 cb_X10_74 (hM.1 0 (9, 0) rfl) rfl rfl ⟨Nat.le_of_ble_eq_true rfl, Nat.le_of_ble_eq_true rfl⟩ ⟨Nat.le_of_ble_eq_true rfl, Nat.le_of_ble_eq_true rfl⟩ (Nat.le_of_ble_eq_true rfl) ?_
      refine r_iload_n hX dX10_within_24 rfl ?_
      refine r_isub hX dX10_within_25 ?_
      refine r_iconst hX (nI 0) dX10_within_26 rfl ?_
      refine r_iload_n hX dX10_within_27 rfl ?_
      refine r_iconst hX (nI 1) dX10_within_28 rfl ?_
      refine r_isubN hX dX10_within_29 (by omega) ?_
      refine r_callSF (As := [.int ((nI (aF A k 3)) - (nI f)), .int (nI 0), .int (nI (w - 1))]) (rest := [.int (nI (wiN A f w k))]) hX (c_X10_in σ ((nI (aF A k 3)) - (nI f)) (nI 0) (nI (w - 1))) dX10_within_30 cb_X10_68 rfl rfl ⟨Nat.le_of_ble_eq_true rfl, Nat.le_of_ble_eq_true rfl⟩ ⟨Nat.le_of_ble_eq_true rfl, Nat.le_of_ble_eq_true rfl⟩ (Nat.le_of_ble_eq_true rfl) ?_
      refine r_ifB_eq hX dX10_within_33 (fun c5 => ?_) (fun c5 => ?_)
      · skip
        refine r_iconst hX (nI 0) dX10_within_40 rfl ?_
        refine r_iaddN hX dX10_within_41 ?_
        refine r_istore_n hX [(0, .ref (L.1 0)), (1, .int (nI f)), (2, .int (nI w)), (3, .int (nI (wiN A f w k + 0))), (4, .int (nI k))] dX10_within_42 hN3 rfl ?_
        refine r_iincN (n := 1) hX [(0, .ref (L.1 0)), (1, .int (nI f)), (2, .int (nI w)), (3, .int (nI (wiN A f w k + 0))), (4, .int (nI (k + 1)))] dX10_within_43 rfl hN4 rfl ?_
        refine r_goto hX dX10_within_46 ?_
        have q6 : wiN A f w (k + 1) = wiN A f w k + 0 := (by rw [wiN, if_neg (by rw [hin] at c5; simpa using c5)])
        exact At.to ih3 (by rw [q6]) rfl rfl
      · skip
        refine r_iconst hX (nI 1) dX10_within_36 rfl ?_
        refine r_goto hX dX10_within_37 ?_
        refine r_iaddN hX dX10_within_41 ?_
        refine r_istore_n hX [(0, .ref (L.1 0)), (1, .int (nI f)), (2, .int (nI w)), (3, .int (nI (wiN A f w k + 1))), (4, .int (nI k))] dX10_within_42 hN3 rfl ?_
        refine r_iincN (n := 1) hX [(0, .ref (L.1 0)), (1, .int (nI f)), (2, .int (nI w)), (3, .int (nI (wiN A f w k + 1))), (4, .int (nI (k + 1)))] dX10_within_43 rfl hN4 rfl ?_
        refine r_goto hX dX10_within_46 ?_
        have q7 : wiN A f w (k + 1) = wiN A f w k + 1 := (by rw [wiN, if_pos (by rw [hin] at c5; simpa using c5)])
        exact At.to ih3 (by rw [q7]) rfl rfl
  exact At.to (P1 0 (Nat.zero_le _)) rfl rfl rfl

set_option maxHeartbeats 4000000 in
set_option maxRecDepth 100000 in
theorem c_X10_wave {l : Launch} {D : Ds} {L : La} (hM : MAt L) (σ : Me) (A : Al) (hR : RM (σ 1) A) (hV : Va A) (w wh : Int32) : Ct l yX10_wave cX10_wave 5 (some .int) { frames := 2, cells := 0, slots := 0, locals := 46 } D L σ [.ref (L.1 0), .int w, .int wh] (PF L σ (oWave A w wh)) := by
  refine Ct.of (by decide) (Nat.le_of_ble_eq_true rfl) ?_
  intro X hl hD hnl hX0 hQ
  have hX : Ok X cX10_wave RX10 "wave" { frames := 2, cells := 0, slots := 0, locals := 46 } (some .int) := hX0
  have hN3 : 3 < xn X := by rw [hnl]; decide
  have hN4 : 4 < xn X := by rw [hnl]; decide
  have hT := hV.1
  have hNn := hV.2.1
  have hW := hV.2.2.1
  show At X L σ 0 0 [(0, .ref (L.1 0)), (1, .int w), (2, .int wh)] 0 []
  refine r_iload_n hX dX10_wave_0 rfl ?_
  refine r_iconst hX (nI 1) dX10_wave_1 rfl ?_
  refine r_sipush hX (nI 1000) dX10_wave_2 rfl ?_
  refine r_callSF (As := [.int w, .int (nI 1), .int (nI 1000)]) (rest := []) hX (c_X10_in σ w (nI 1) (nI 1000)) dX10_wave_5 cb_X10_68 rfl rfl ⟨Nat.le_of_ble_eq_true rfl, Nat.le_of_ble_eq_true rfl⟩ ⟨Nat.le_of_ble_eq_true rfl, Nat.le_of_ble_eq_true rfl⟩ (Nat.le_of_ble_eq_true rfl) ?_
  refine r_ifB_eq hX dX10_wave_8 (fun c1 => ?_) (fun c1 => ?_)
  · skip
    refine r_ldc hX dX10_wave_20 ko_X10_72 ?_
    exact r_ireturn hX hQ dX10_wave_22 ⟨Nat.le_of_ble_eq_true rfl, Nat.le_of_ble_eq_true rfl⟩ (PF.mk (by rw [oWave, if_neg (fun e => by have e := e.1; rw [c1] at e; cases e)]))
  · skip
    obtain ⟨q, hql, hq, rfl⟩ := inB_nat c1 (by decide) (by decide)
    refine r_iload_n hX dX10_wave_11 rfl ?_
    refine r_iconst hX (nI 0) dX10_wave_12 rfl ?_
    refine r_iconst hX (nI 1) dX10_wave_13 rfl ?_
    refine r_callSF (As := [.int wh, .int (nI 0), .int (nI 1)]) (rest := []) hX (c_X10_in σ wh (nI 0) (nI 1)) dX10_wave_14 cb_X10_68 rfl rfl ⟨Nat.le_of_ble_eq_true rfl, Nat.le_of_ble_eq_true rfl⟩ ⟨Nat.le_of_ble_eq_true rfl, Nat.le_of_ble_eq_true rfl⟩ (Nat.le_of_ble_eq_true rfl) ?_
    refine r_ifB_ne hX dX10_wave_17 (fun c2 => ?_) (fun c2 => ?_)
    · skip
      obtain ⟨r, hrl, hr, rfl⟩ := inB_nat c2 (by decide) (by decide)
      refine r_aload_n hX dX10_wave_23 rfl ?_
      refine r_getR hX dX10_wave_24 fl_X10_9 (hM.1 0 (9, 0) rfl) rfl (hM.2 0 1 rfl) ?_
      refine r_iconst hX (nI 2) dX10_wave_27 rfl ?_
      refine r_aldN hX dX10_wave_28 (hM.1 1 (10, 1605) rfl) (by decide) (by decide) (nI (aW A)) hR.2.2.1 ?_
      refine r_ifN_ne hX dX10_wave_29 (by omega) (fun c3 => ?_) (fun c3 => ?_)
      · skip
        refine r_iconst hX (nI 0) dX10_wave_35 rfl ?_
        refine r_istore_n hX [(0, .ref (L.1 0)), (1, .int (nI q)), (2, .int (nI r)), (3, .int (nI 0))] dX10_wave_36 hN3 rfl ?_
        refine r_iconst hX (nI 1) dX10_wave_37 rfl ?_
        refine r_istore hX [(0, .ref (L.1 0)), (1, .int (nI q)), (2, .int (nI r)), (3, .int (nI 0)), (4, .int (nI 1))] dX10_wave_38 hN4 rfl ?_
        have P4 : ∀ k, k ≤ 999 → At X L σ 0 0 [(0, .ref (L.1 0)), (1, .int (nI q)), (2, .int (nI r)), (3, .int (nI (wvN A q k))), (4, .int (nI (1 + k)))] 40 [] := by
          refine loopUp 999 ?_ ?_
          · skip
            have hv := wvN_le A q 999
            refine r_iload hX dX10_wave_40 rfl ?_
            refine r_sipush hX (nI 1000) dX10_wave_42 rfl ?_
            refine r_icmpN_ge hX dX10_wave_45 (by omega) (by decide) (fun c5 => ?_) (fun c5 => absurd c5 (by omega))
            refine r_iload_n hX dX10_wave_77 rfl ?_
            refine r_ifN_ne hX dX10_wave_78 (by omega) (fun c6 => ?_) (fun c6 => ?_)
            · skip
              refine r_aload_n hX dX10_wave_85 rfl ?_
              refine r_iload_n hX dX10_wave_86 rfl ?_
              refine r_iload_n hX dX10_wave_87 rfl ?_
              refine r_callVF (As := [.int (nI (wvN A q 999)), .int (nI q)]) (rest := []) hX (c_X10_within hM σ A hR hV (wvN A q 999) q (by omega) (by omega) (by omega)) dX10_wave_88 cb_X10_209 (hM.1 0 (9, 0) rfl) rfl rfl ⟨Nat.le_of_ble_eq_true rfl, Nat.le_of_ble_eq_true rfl⟩ ⟨Nat.le_of_ble_eq_true rfl, Nat.le_of_ble_eq_true rfl⟩ (Nat.le_of_ble_eq_true rfl) ?_
              exact r_ireturn hX hQ dX10_wave_91 ⟨Nat.le_of_ble_eq_true rfl, Nat.le_of_ble_eq_true rfl⟩ (PF.mk (by rw [oWave, if_pos ⟨c1, c2⟩, if_neg c3, if_neg (by rw [show r = 1 by omega]; decide), nI_clamp (by omega)]))
            · skip
              refine r_iload_n hX dX10_wave_81 rfl ?_
              refine r_goto hX dX10_wave_82 ?_
              exact r_ireturn hX hQ dX10_wave_91 ⟨Nat.le_of_ble_eq_true rfl, Nat.le_of_ble_eq_true rfl⟩ (PF.mk (by rw [oWave, if_pos ⟨c1, c2⟩, if_neg c3, if_pos (by rw [show r = 0 by omega]), nI_clamp (by omega)]))
          · skip
            intro k hk ih7
            have hv := wvN_le A q k
            have g1 := wiN_le A (wvN A q k) q (aW A)
            have g2 := wiN_le A (1 + k) q (aW A)
            refine r_iload hX dX10_wave_40 rfl ?_
            refine r_sipush hX (nI 1000) dX10_wave_42 rfl ?_
            refine r_icmpN_ge hX dX10_wave_45 (by omega) (by decide) (fun c8 => absurd c8 (by omega)) (fun c8 => ?_)
            refine r_aload_n hX dX10_wave_48 rfl ?_
            refine r_iload hX dX10_wave_49 rfl ?_
            refine r_iload_n hX dX10_wave_51 rfl ?_
            refine r_callVF (As := [.int (nI (1 + k)), .int (nI q)]) (rest := []) hX (c_X10_within hM σ A hR hV (1 + k) q (by omega) (by omega) (by omega)) dX10_wave_52 cb_X10_209 (hM.1 0 (9, 0) rfl) rfl rfl ⟨Nat.le_of_ble_eq_true rfl, Nat.le_of_ble_eq_true rfl⟩ ⟨Nat.le_of_ble_eq_true rfl, Nat.le_of_ble_eq_true rfl⟩ (Nat.le_of_ble_eq_true rfl) ?_
            refine r_aload_n hX dX10_wave_55 rfl ?_
            refine r_iload_n hX dX10_wave_56 rfl ?_
            refine r_iload_n hX dX10_wave_57 rfl ?_
            refine r_callVF (As := [.int (nI (wvN A q k)), .int (nI q)]) (rest := [.int (nI (wiN A (1 + k) q (aW A)))]) hX (c_X10_within hM σ A hR hV (wvN A q k) q (by omega) (by omega) (by omega)) dX10_wave_58 cb_X10_209 (hM.1 0 (9, 0) rfl) rfl rfl ⟨Nat.le_of_ble_eq_true rfl, Nat.le_of_ble_eq_true rfl⟩ ⟨Nat.le_of_ble_eq_true rfl, Nat.le_of_ble_eq_true rfl⟩ (Nat.le_of_ble_eq_true rfl) ?_
            refine r_icmpN_le hX dX10_wave_61 (by have := wiN_le A (wvN A q k) q (aW A); have := wiN_le A (1 + k) q (aW A); omega) (by have := wiN_le A (wvN A q k) q (aW A); have := wiN_le A (1 + k) q (aW A); omega) (fun c9 => ?_) (fun c9 => ?_)
            · skip
              refine r_iload_n hX dX10_wave_69 rfl ?_
              refine r_istore_n hX [(0, .ref (L.1 0)), (1, .int (nI q)), (2, .int (nI r)), (3, .int (nI (wvN A q k))), (4, .int (nI (1 + k)))] dX10_wave_70 hN3 rfl ?_
              refine r_iincN (n := 1) hX [(0, .ref (L.1 0)), (1, .int (nI q)), (2, .int (nI r)), (3, .int (nI (wvN A q k))), (4, .int (nI (1 + k + 1)))] dX10_wave_71 rfl hN4 rfl ?_
              refine r_goto hX dX10_wave_74 ?_
              have q10 : wvN A q (k + 1) = wvN A q k := (by rw [wvN, if_neg (by rw [Nat.add_comm k 1]; omega)])
              have q11 : 1 + (k + 1) = 1 + k + 1 := (by omega)
              exact At.to ih7 (by rw [q10, q11]) rfl rfl
            · skip
              refine r_iload hX dX10_wave_64 rfl ?_
              refine r_goto hX dX10_wave_66 ?_
              refine r_istore_n hX [(0, .ref (L.1 0)), (1, .int (nI q)), (2, .int (nI r)), (3, .int (nI (1 + k))), (4, .int (nI (1 + k)))] dX10_wave_70 hN3 rfl ?_
              refine r_iincN (n := 1) hX [(0, .ref (L.1 0)), (1, .int (nI q)), (2, .int (nI r)), (3, .int (nI (1 + k))), (4, .int (nI (1 + k + 1)))] dX10_wave_71 rfl hN4 rfl ?_
              refine r_goto hX dX10_wave_74 ?_
              have q12 : wvN A q (k + 1) = 1 + k := (by rw [wvN, if_pos (by rw [Nat.add_comm k 1]; exact c9)]; omega)
              have q13 : 1 + (k + 1) = 1 + k + 1 := (by omega)
              exact At.to ih7 (by rw [q12, q13]) rfl rfl
        exact At.to (P4 0 (Nat.zero_le _)) rfl rfl rfl
      · skip
        refine r_ldc hX dX10_wave_32 ko_X10_92 ?_
        exact r_ireturn hX hQ dX10_wave_34 ⟨Nat.le_of_ble_eq_true rfl, Nat.le_of_ble_eq_true rfl⟩ (PF.mk (by rw [oWave, if_pos ⟨c1, c2⟩, if_pos c3]))
    · skip
      refine r_ldc hX dX10_wave_20 ko_X10_72 ?_
      exact r_ireturn hX hQ dX10_wave_22 ⟨Nat.le_of_ble_eq_true rfl, Nat.le_of_ble_eq_true rfl⟩ (PF.mk (by rw [oWave, if_neg (fun e => by have e := e.2; rw [c2] at e; cases e)]))

set_option maxHeartbeats 4000000 in
set_option maxRecDepth 100000 in
theorem c_X10_differ {l : Launch} {D : Ds} {L : La} (hM : MAt L) (σ : Me) (A : Al) (hR : RM (σ 1) A) (hV : Va A) (t h v : Nat) (ht : t < 2 ^ 31) (hh : h < 2 ^ 31) (hv : v < aW A) (hv1 : aF A v 1 = t) (hv3 : aF A v 3 = h) : Ct l yX10_differ cX10_differ 7 (some .int) { frames := 2, cells := 0, slots := 0, locals := 46 } D L σ [.ref (L.1 0), .int (nI t), .int (nI h)] (PF L σ (oI (dfO A t h))) := by
  refine Ct.of (by decide) (Nat.le_of_ble_eq_true rfl) ?_
  intro X hl hD hnl hX0 hQ
  have hX : Ok X cX10_differ RX10 "differ" { frames := 2, cells := 0, slots := 0, locals := 46 } (some .int) := hX0
  have hN3 : 3 < xn X := by rw [hnl]; decide
  have hN4 : 4 < xn X := by rw [hnl]; decide
  have hN5 : 5 < xn X := by rw [hnl]; decide
  have hN6 : 6 < xn X := by rw [hnl]; decide
  have hT := hV.1
  have hNn := hV.2.1
  have hW := hV.2.2.1
  have hss := ss_le hV t
  have hcl := cw_le A 1 t (aW A)
  have hdl := ds_le (A := A) t h (aW A)
  have hlt := dc_lt hv1 hv3 (aW A) hv
  show At X L σ 0 0 [(0, .ref (L.1 0)), (1, .int (nI t)), (2, .int (nI h))] 0 []
  refine r_iconst hX (nI 0) dX10_differ_0 rfl ?_
  refine r_istore_n hX [(0, .ref (L.1 0)), (1, .int (nI t)), (2, .int (nI h)), (3, .int (nI 0))] dX10_differ_1 hN3 rfl ?_
  refine r_iconst hX (nI 0) dX10_differ_2 rfl ?_
  refine r_istore hX [(0, .ref (L.1 0)), (1, .int (nI t)), (2, .int (nI h)), (3, .int (nI 0)), (4, .int (nI 0))] dX10_differ_3 hN4 rfl ?_
  refine r_iconst hX (nI 0) dX10_differ_5 rfl ?_
  refine r_istore hX [(0, .ref (L.1 0)), (1, .int (nI t)), (2, .int (nI h)), (3, .int (nI 0)), (4, .int (nI 0)), (5, .int (nI 0))] dX10_differ_6 hN5 rfl ?_
  have P1 : ∀ k, k ≤ aW A → At X L σ 0 0 [(0, .ref (L.1 0)), (1, .int (nI t)), (2, .int (nI h)), (3, .int (nI (dcN A t h k))), (4, .int (nI (dsN A t h k))), (5, .int (nI k))] 8 [] := by
    refine loopUp (aW A) ?_ ?_
    · skip
      refine r_iload hX dX10_differ_8 rfl ?_
      refine r_aload_n hX dX10_differ_10 rfl ?_
      refine r_getR hX dX10_differ_11 fl_X10_9 (hM.1 0 (9, 0) rfl) rfl (hM.2 0 1 rfl) ?_
      refine r_iconst hX (nI 2) dX10_differ_14 rfl ?_
      refine r_aldN hX dX10_differ_15 (hM.1 1 (10, 1605) rfl) (by decide) (by decide) (nI (aW A)) hR.2.2.1 ?_
      refine r_icmpN_ge hX dX10_differ_16 (by omega) (by omega) (fun c2 => ?_) (fun c2 => absurd c2 (by omega))
      refine r_aload_n hX dX10_differ_88 rfl ?_
      refine r_iconst hX (nI 1) dX10_differ_89 rfl ?_
      refine r_iload_n hX dX10_differ_90 rfl ?_
      refine r_callVF (As := [.int (nI 1), .int (nI t)]) (rest := []) hX (c_X10_wordsOf hM σ A hR hV 1 t (by omega) (by omega)) dX10_differ_91 cb_X10_82 (hM.1 0 (9, 0) rfl) rfl rfl ⟨Nat.le_of_ble_eq_true rfl, Nat.le_of_ble_eq_true rfl⟩ ⟨Nat.le_of_ble_eq_true rfl, Nat.le_of_ble_eq_true rfl⟩ (Nat.le_of_ble_eq_true rfl) ?_
      refine r_iload_n hX dX10_differ_94 rfl ?_
      refine r_isubN hX dX10_differ_95 (by omega) ?_
      refine r_istore hX [(0, .ref (L.1 0)), (1, .int (nI t)), (2, .int (nI h)), (3, .int (nI (dcN A t h (aW A)))), (4, .int (nI (dsN A t h (aW A)))), (5, .int (nI (cw A 1 t (aW A) - (dcN A t h (aW A)))))] dX10_differ_96 hN5 rfl ?_
      refine r_iload_n hX dX10_differ_98 rfl ?_
      refine r_ifN_ne hX dX10_differ_99 (by omega) (fun c3 => ?_) (fun c3 => ?_)
      · skip
        refine r_bipush hX (nI 100) dX10_differ_106 rfl ?_
        refine r_iload hX dX10_differ_108 rfl ?_
        refine r_imulN hX dX10_differ_110 ?_
        refine r_iload_n hX dX10_differ_111 rfl ?_
        refine r_idivN hX dX10_differ_112 (by omega) (by omega) (by omega) ?_
        refine r_bipush hX (nI 100) dX10_differ_113 rfl ?_
        refine r_aload_n hX dX10_differ_115 rfl ?_
        refine r_iload_n hX dX10_differ_116 rfl ?_
        refine r_callVF (As := [.int (nI t)]) (rest := [.int (nI 100), .int (nI ((100 * (dsN A t h (aW A))) / (dcN A t h (aW A))))]) hX (c_X10_starsOf hM σ A hR hV t (by omega)) dX10_differ_117 cb_X10_168 (hM.1 0 (9, 0) rfl) rfl rfl ⟨Nat.le_of_ble_eq_true rfl, Nat.le_of_ble_eq_true rfl⟩ ⟨Nat.le_of_ble_eq_true rfl, Nat.le_of_ble_eq_true rfl⟩ (Nat.le_of_ble_eq_true rfl) ?_
        refine r_iload hX dX10_differ_120 rfl ?_
        refine r_isubN hX dX10_differ_122 (by omega) ?_
        refine r_imulN hX dX10_differ_123 ?_
        refine r_iload hX dX10_differ_124 rfl ?_
        refine r_idivN hX dX10_differ_126 (by omega) (by omega) (by omega) ?_
        refine r_callSF (As := [.int (nI ((100 * (dsN A t h (aW A))) / (dcN A t h (aW A)))), .int (nI ((100 * (ss A 1 t (aW A) - (dsN A t h (aW A)))) / (cw A 1 t (aW A) - (dcN A t h (aW A)))))]) (rest := []) hX (c_X10_apart σ ((100 * (dsN A t h (aW A))) / (dcN A t h (aW A))) ((100 * (ss A 1 t (aW A) - (dsN A t h (aW A)))) / (cw A 1 t (aW A) - (dcN A t h (aW A)))) (by have := Nat.div_le_self (100 * dsN A t h (aW A)) (dcN A t h (aW A)); omega) (by have := Nat.div_le_self (100 * (ss A 1 t (aW A) - dsN A t h (aW A))) (cw A 1 t (aW A) - dcN A t h (aW A)); omega)) dX10_differ_127 cb_X10_196 rfl rfl ⟨Nat.le_of_ble_eq_true rfl, Nat.le_of_ble_eq_true rfl⟩ ⟨Nat.le_of_ble_eq_true rfl, Nat.le_of_ble_eq_true rfl⟩ (Nat.le_of_ble_eq_true rfl) ?_
        exact r_ireturn hX hQ dX10_differ_130 ⟨Nat.le_of_ble_eq_true rfl, Nat.le_of_ble_eq_true rfl⟩ (PF.mk (by rw [dfO, if_neg c3]; rfl))
      · skip
        refine r_iconst hX (-1) dX10_differ_102 rfl ?_
        refine r_goto hX dX10_differ_103 ?_
        exact r_ireturn hX hQ dX10_differ_130 ⟨Nat.le_of_ble_eq_true rfl, Nat.le_of_ble_eq_true rfl⟩ (PF.mk (by rw [dfO, if_pos c3]; rfl))
    · skip
      intro k hk ih4
      have hb1 := va_sm hV hk (f := 1) (by decide)
      have hb3 := va_sm hV hk (f := 3) (by decide)
      refine r_iload hX dX10_differ_8 rfl ?_
      refine r_aload_n hX dX10_differ_10 rfl ?_
      refine r_getR hX dX10_differ_11 fl_X10_9 (hM.1 0 (9, 0) rfl) rfl (hM.2 0 1 rfl) ?_
      refine r_iconst hX (nI 2) dX10_differ_14 rfl ?_
      refine r_aldN hX dX10_differ_15 (hM.1 1 (10, 1605) rfl) (by decide) (by decide) (nI (aW A)) hR.2.2.1 ?_
      refine r_icmpN_ge hX dX10_differ_16 (by omega) (by omega) (fun c5 => absurd c5 (by omega)) (fun c5 => ?_)
      refine r_aload_n hX dX10_differ_19 rfl ?_
      refine r_iload hX dX10_differ_20 rfl ?_
      refine r_iconst hX (nI 1) dX10_differ_22 rfl ?_
      refine r_callVF (As := [.int (nI k), .int (nI 1)]) (rest := []) hX (c_X10_ofA hM σ A hR hV k 1 (by omega) (by omega)) dX10_differ_23 cb_X10_74 (hM.1 0 (9, 0) rfl) rfl rfl ⟨Nat.le_of_ble_eq_true rfl, Nat.le_of_ble_eq_true rfl⟩ ⟨Nat.le_of_ble_eq_true rfl, Nat.le_of_ble_eq_true rfl⟩ (Nat.le_of_ble_eq_true rfl) ?_
      refine r_iload_n hX dX10_differ_26 rfl ?_
      refine r_icmpN_ne hX dX10_differ_27 (by omega) (by omega) (fun c6 => ?_) (fun c6 => ?_)
      · skip
        refine r_iconst hX (nI 0) dX10_differ_45 rfl ?_
        refine r_istore hX [(0, .ref (L.1 0)), (1, .int (nI t)), (2, .int (nI h)), (3, .int (nI (dcN A t h k))), (4, .int (nI (dsN A t h k))), (5, .int (nI k)), (6, .int (nI 0))] dX10_differ_46 hN6 rfl ?_
        refine r_iload_n hX dX10_differ_48 rfl ?_
        refine r_iload hX dX10_differ_49 rfl ?_
        refine r_ifN_eq hX dX10_differ_51 (by decide) (fun c7 => ?_) (fun c7 => absurd c7 (by decide))
        refine r_iconst hX (nI 0) dX10_differ_58 rfl ?_
        refine r_iaddN hX dX10_differ_59 ?_
        refine r_istore_n hX [(0, .ref (L.1 0)), (1, .int (nI t)), (2, .int (nI h)), (3, .int (nI (dcN A t h k + 0))), (4, .int (nI (dsN A t h k))), (5, .int (nI k)), (6, .int (nI 0))] dX10_differ_60 hN3 rfl ?_
        refine r_iload hX dX10_differ_61 rfl ?_
        refine r_iload hX dX10_differ_63 rfl ?_
        refine r_ifN_eq hX dX10_differ_65 (by decide) (fun c8 => ?_) (fun c8 => absurd c8 (by decide))
        refine r_iconst hX (nI 0) dX10_differ_78 rfl ?_
        refine r_iaddN hX dX10_differ_79 ?_
        refine r_istore hX [(0, .ref (L.1 0)), (1, .int (nI t)), (2, .int (nI h)), (3, .int (nI (dcN A t h k + 0))), (4, .int (nI (dsN A t h k + 0))), (5, .int (nI k)), (6, .int (nI 0))] dX10_differ_80 hN4 rfl ?_
        refine r_iincN (n := 1) hX [(0, .ref (L.1 0)), (1, .int (nI t)), (2, .int (nI h)), (3, .int (nI (dcN A t h k + 0))), (4, .int (nI (dsN A t h k + 0))), (5, .int (nI (k + 1))), (6, .int (nI 0))] dX10_differ_82 rfl hN5 rfl ?_
        refine r_goto hX dX10_differ_85 ?_
        have q9 : dcN A t h (k + 1) = dcN A t h k + 0 := (by rw [dcN, if_neg (fun q => c6 q.1)])
        have q10 : dsN A t h (k + 1) = dsN A t h k + 0 := (by rw [dsN, if_neg (fun q => c6 q.1)])
        exact At.less (At.to (ls := [(0, .ref (L.1 0)), (1, .int (nI t)), (2, .int (nI h)), (3, .int (nI (dcN A t h k + 0))), (4, .int (nI (dsN A t h k + 0))), (5, .int (nI (k + 1)))]) ih4 (by rw [q9, q10]) rfl rfl) (by simp)
      · skip
        refine r_aload_n hX dX10_differ_30 rfl ?_
        refine r_iload hX dX10_differ_31 rfl ?_
        refine r_iconst hX (nI 3) dX10_differ_33 rfl ?_
        refine r_callVF (As := [.int (nI k), .int (nI 3)]) (rest := []) hX (c_X10_ofA hM σ A hR hV k 3 (by omega) (by omega)) dX10_differ_34 cb_X10_74 (hM.1 0 (9, 0) rfl) rfl rfl ⟨Nat.le_of_ble_eq_true rfl, Nat.le_of_ble_eq_true rfl⟩ ⟨Nat.le_of_ble_eq_true rfl, Nat.le_of_ble_eq_true rfl⟩ (Nat.le_of_ble_eq_true rfl) ?_
        refine r_iload_n hX dX10_differ_37 rfl ?_
        refine r_icmpN_ge hX dX10_differ_38 (by omega) (by omega) (fun c11 => ?_) (fun c11 => ?_)
        · skip
          refine r_iconst hX (nI 0) dX10_differ_45 rfl ?_
          refine r_istore hX [(0, .ref (L.1 0)), (1, .int (nI t)), (2, .int (nI h)), (3, .int (nI (dcN A t h k))), (4, .int (nI (dsN A t h k))), (5, .int (nI k)), (6, .int (nI 0))] dX10_differ_46 hN6 rfl ?_
          refine r_iload_n hX dX10_differ_48 rfl ?_
          refine r_iload hX dX10_differ_49 rfl ?_
          refine r_ifN_eq hX dX10_differ_51 (by decide) (fun c12 => ?_) (fun c12 => absurd c12 (by decide))
          refine r_iconst hX (nI 0) dX10_differ_58 rfl ?_
          refine r_iaddN hX dX10_differ_59 ?_
          refine r_istore_n hX [(0, .ref (L.1 0)), (1, .int (nI t)), (2, .int (nI h)), (3, .int (nI (dcN A t h k + 0))), (4, .int (nI (dsN A t h k))), (5, .int (nI k)), (6, .int (nI 0))] dX10_differ_60 hN3 rfl ?_
          refine r_iload hX dX10_differ_61 rfl ?_
          refine r_iload hX dX10_differ_63 rfl ?_
          refine r_ifN_eq hX dX10_differ_65 (by decide) (fun c13 => ?_) (fun c13 => absurd c13 (by decide))
          refine r_iconst hX (nI 0) dX10_differ_78 rfl ?_
          refine r_iaddN hX dX10_differ_79 ?_
          refine r_istore hX [(0, .ref (L.1 0)), (1, .int (nI t)), (2, .int (nI h)), (3, .int (nI (dcN A t h k + 0))), (4, .int (nI (dsN A t h k + 0))), (5, .int (nI k)), (6, .int (nI 0))] dX10_differ_80 hN4 rfl ?_
          refine r_iincN (n := 1) hX [(0, .ref (L.1 0)), (1, .int (nI t)), (2, .int (nI h)), (3, .int (nI (dcN A t h k + 0))), (4, .int (nI (dsN A t h k + 0))), (5, .int (nI (k + 1))), (6, .int (nI 0))] dX10_differ_82 rfl hN5 rfl ?_
          refine r_goto hX dX10_differ_85 ?_
          have q14 : dcN A t h (k + 1) = dcN A t h k + 0 := (by rw [dcN, if_neg (fun q => absurd q.2 (by omega))])
          have q15 : dsN A t h (k + 1) = dsN A t h k + 0 := (by rw [dsN, if_neg (fun q => absurd q.2 (by omega))])
          exact At.less (At.to (ls := [(0, .ref (L.1 0)), (1, .int (nI t)), (2, .int (nI h)), (3, .int (nI (dcN A t h k + 0))), (4, .int (nI (dsN A t h k + 0))), (5, .int (nI (k + 1)))]) ih4 (by rw [q14, q15]) rfl rfl) (by simp)
        · skip
          refine r_iconst hX (nI 1) dX10_differ_41 rfl ?_
          refine r_goto hX dX10_differ_42 ?_
          refine r_istore hX [(0, .ref (L.1 0)), (1, .int (nI t)), (2, .int (nI h)), (3, .int (nI (dcN A t h k))), (4, .int (nI (dsN A t h k))), (5, .int (nI k)), (6, .int (nI 1))] dX10_differ_46 hN6 rfl ?_
          refine r_iload_n hX dX10_differ_48 rfl ?_
          refine r_iload hX dX10_differ_49 rfl ?_
          refine r_ifN_eq hX dX10_differ_51 (by decide) (fun c16 => absurd c16 (by decide)) (fun c16 => ?_)
          refine r_iconst hX (nI 1) dX10_differ_54 rfl ?_
          refine r_goto hX dX10_differ_55 ?_
          refine r_iaddN hX dX10_differ_59 ?_
          refine r_istore_n hX [(0, .ref (L.1 0)), (1, .int (nI t)), (2, .int (nI h)), (3, .int (nI (dcN A t h k + 1))), (4, .int (nI (dsN A t h k))), (5, .int (nI k)), (6, .int (nI 1))] dX10_differ_60 hN3 rfl ?_
          refine r_iload hX dX10_differ_61 rfl ?_
          refine r_iload hX dX10_differ_63 rfl ?_
          refine r_ifN_eq hX dX10_differ_65 (by decide) (fun c17 => absurd c17 (by decide)) (fun c17 => ?_)
          refine r_aload_n hX dX10_differ_68 rfl ?_
          refine r_iload hX dX10_differ_69 rfl ?_
          refine r_iconst hX (nI 4) dX10_differ_71 rfl ?_
          refine r_callVF (As := [.int (nI k), .int (nI 4)]) (rest := [.int (nI (dsN A t h k))]) hX (c_X10_ofA hM σ A hR hV k 4 (by omega) (by omega)) dX10_differ_72 cb_X10_74 (hM.1 0 (9, 0) rfl) rfl rfl ⟨Nat.le_of_ble_eq_true rfl, Nat.le_of_ble_eq_true rfl⟩ ⟨Nat.le_of_ble_eq_true rfl, Nat.le_of_ble_eq_true rfl⟩ (Nat.le_of_ble_eq_true rfl) ?_
          refine r_goto hX dX10_differ_75 ?_
          refine r_iaddN hX dX10_differ_79 ?_
          refine r_istore hX [(0, .ref (L.1 0)), (1, .int (nI t)), (2, .int (nI h)), (3, .int (nI (dcN A t h k + 1))), (4, .int (nI (dsN A t h k + (aF A k 4)))), (5, .int (nI k)), (6, .int (nI 1))] dX10_differ_80 hN4 rfl ?_
          refine r_iincN (n := 1) hX [(0, .ref (L.1 0)), (1, .int (nI t)), (2, .int (nI h)), (3, .int (nI (dcN A t h k + 1))), (4, .int (nI (dsN A t h k + (aF A k 4)))), (5, .int (nI (k + 1))), (6, .int (nI 1))] dX10_differ_82 rfl hN5 rfl ?_
          refine r_goto hX dX10_differ_85 ?_
          have q18 : dcN A t h (k + 1) = dcN A t h k + 1 := (by rw [dcN, if_pos ⟨c6, c11⟩])
          have q19 : dsN A t h (k + 1) = dsN A t h k + (aF A k 4) := (by rw [dsN, if_pos ⟨c6, c11⟩])
          exact At.less (At.to (ls := [(0, .ref (L.1 0)), (1, .int (nI t)), (2, .int (nI h)), (3, .int (nI (dcN A t h k + 1))), (4, .int (nI (dsN A t h k + (aF A k 4)))), (5, .int (nI (k + 1)))]) ih4 (by rw [q18, q19]) rfl rfl) (by simp)
  exact At.to (P1 0 (Nat.zero_le _)) rfl rfl rfl
