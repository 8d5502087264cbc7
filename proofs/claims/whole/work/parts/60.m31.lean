set_option maxHeartbeats 4000000 in
set_option maxRecDepth 100000 in
theorem c_X10_rightOnes {l : Launch} {D : Ds} {L : La} (hM : MAt L) (σ : Me) (A : Al) (hR : RM (σ 1) A) (hV : Va A) (Q : Wt) (hQw : ∀ k, k < Q.1 → σ 5 k = Q.2 k) (hQ60 : Q.1 ≤ 60) (n h : Nat) (hn : n ≤ 30) (hh : h ≤ 999) (hT0 : 0 < aT A) : Ct l yX10_rightOnes cX10_rightOnes 7 (some .int) { frames := 10, cells := 0, slots := 0, locals := 227 } D L σ [.ref (L.1 0), .int (nI n), .int (nI h), .int (nI Q.1)] (PI L (fun r σ2 => r = nI (rgS A h Q n).2.1 ∧ S1 σ σ2)) := by
  refine Ct.of (by decide) (Nat.le_of_ble_eq_true rfl) ?_
  intro X hl hD hnl hX0 hQ
  have hX : Ok X cX10_rightOnes RX10 "rightOnes" { frames := 10, cells := 0, slots := 0, locals := 227 } (some .int) := hX0
  have hN4 : 4 < xn X := by rw [hnl]; decide
  have hN5 : 5 < xn X := by rw [hnl]; decide
  have hN6 : 6 < xn X := by rw [hnl]; decide
  have hT := hV.1
  have hNn := hV.2.1
  have hW := hV.2.2.1
  show At X L σ 0 0 [(0, .ref (L.1 0)), (1, .int (nI n)), (2, .int (nI h)), (3, .int (nI Q.1))] 0 []
  refine r_iconst hX (nI 0) dX10_rightOnes_0 rfl ?_
  refine r_istore hX [(0, .ref (L.1 0)), (1, .int (nI n)), (2, .int (nI h)), (3, .int (nI Q.1)), (4, .int (nI 0))] dX10_rightOnes_1 hN4 rfl ?_
  refine r_iconst hX (nI 1) dX10_rightOnes_3 rfl ?_
  refine r_istore hX [(0, .ref (L.1 0)), (1, .int (nI n)), (2, .int (nI h)), (3, .int (nI Q.1)), (4, .int (nI 0)), (5, .int (nI 1))] dX10_rightOnes_4 hN5 rfl ?_
  refine r_iconst hX (nI 0) dX10_rightOnes_6 rfl ?_
  refine r_istore hX [(0, .ref (L.1 0)), (1, .int (nI n)), (2, .int (nI h)), (3, .int (nI Q.1)), (4, .int (nI 0)), (5, .int (nI 1)), (6, .int (nI 0))] dX10_rightOnes_7 hN6 rfl ?_
  have P1 : ∀ k, k ≤ n → ∀ (σk : Me) (hRk : RM (σk 1) (rgS A h Q k).1) (hSk : S1 σ σk), At X L σk 0 0 [(0, .ref (L.1 0)), (1, .int (nI n)), (2, .int (nI h)), (3, .int (nI Q.1)), (4, .int (nI ((rgS A h Q k).2.1))), (5, .int (bI ((rgS A h Q k).2.2))), (6, .int (nI k))] 9 [] := by
    refine loopUp n ?_ ?_
    · skip
      intro σk hRk hSk
      refine r_iload hX dX10_rightOnes_9 rfl ?_
      refine r_iload_n hX dX10_rightOnes_11 rfl ?_
      refine r_icmpN_ge hX dX10_rightOnes_12 (by omega) (by omega) (fun c2 => ?_) (fun c2 => absurd c2 (by omega))
      refine r_iload hX dX10_rightOnes_120 rfl ?_
      exact r_ireturn hX hQ dX10_rightOnes_122 ⟨Nat.le_of_ble_eq_true rfl, Nat.le_of_ble_eq_true rfl⟩ (PI.mk ⟨rfl, hSk⟩)
    · skip
      intro k hk ih3 σk hRk hSk
      have hvk := rgS_ok hV hT0 hh Q k
      refine r_iload hX dX10_rightOnes_9 rfl ?_
      refine r_iload_n hX dX10_rightOnes_11 rfl ?_
      refine r_icmpN_ge hX dX10_rightOnes_12 (by omega) (by omega) (fun c4 => absurd c4 (by omega)) (fun c4 => ?_)
      refine r_iload hX dX10_rightOnes_15 rfl ?_
      refine r_ifB_eq hX dX10_rightOnes_17 (fun c5 => ?_) (fun c5 => ?_)
      · skip
        refine r_iload hX dX10_rightOnes_120 rfl ?_
        exact r_ireturn hX hQ dX10_rightOnes_122 ⟨Nat.le_of_ble_eq_true rfl, Nat.le_of_ble_eq_true rfl⟩ (PI.mk ⟨by rw [rgS_f c5 n (by omega)], hSk⟩)
      · skip
        refine r_aload_n hX dX10_rightOnes_20 rfl ?_
        refine r_iload_n hX dX10_rightOnes_21 rfl ?_
        refine r_callVV (As := [.int (nI h)]) (rest := []) hX (c_X10_buys hM σk (rgS A h Q k).1 hRk hvk.1 h (by rw [hvk.2.1]; omega) (by omega)) dX10_rightOnes_22 cb_X10_230 (hM.1 0 (9, 0) rfl) rfl rfl ⟨Nat.le_of_ble_eq_true rfl, Nat.le_of_ble_eq_true rfl⟩ ⟨Nat.le_of_ble_eq_true rfl, Nat.le_of_ble_eq_true rfl⟩ (Nat.le_of_ble_eq_true rfl) (fun σ6 h7 => ?_)
        obtain ⟨h1710, h1811, hR8, hO9⟩ := h7
        refine r_iload hX dX10_rightOnes_25 rfl ?_
        refine r_iload_n hX dX10_rightOnes_27 rfl ?_
        refine r_icmpN_ge hX dX10_rightOnes_28 (by omega) (by omega) (fun c12 => ?_) (fun c12 => ?_)
        · skip
          refine r_iconst hX (nI 0) dX10_rightOnes_49 rfl ?_
          refine r_istore hX [(0, .ref (L.1 0)), (1, .int (nI n)), (2, .int (nI h)), (3, .int (nI Q.1)), (4, .int (nI ((rgS A h Q k).2.1))), (5, .int (nI 0)), (6, .int (nI k))] dX10_rightOnes_50 hN5 rfl ?_
          refine r_iload hX dX10_rightOnes_52 rfl ?_
          refine r_iload hX dX10_rightOnes_54 rfl ?_
          refine r_ifN_eq hX dX10_rightOnes_56 (by decide) (fun c13 => ?_) (fun c13 => absurd c13 (by decide))
          refine r_iconst hX (nI 0) dX10_rightOnes_63 rfl ?_
          refine r_iaddN hX dX10_rightOnes_64 ?_
          refine r_istore hX [(0, .ref (L.1 0)), (1, .int (nI n)), (2, .int (nI h)), (3, .int (nI Q.1)), (4, .int (nI ((rgS A h Q k).2.1 + 0))), (5, .int (nI 0)), (6, .int (nI k))] dX10_rightOnes_65 hN4 rfl ?_
          refine r_iload hX dX10_rightOnes_67 rfl ?_
          refine r_ifN_eq hX dX10_rightOnes_69 (by decide) (fun c14 => ?_) (fun c14 => absurd c14 (by decide))
          refine r_iconst hX (nI 0) dX10_rightOnes_96 rfl ?_
          refine r_istore hX [(0, .ref (L.1 0)), (1, .int (nI n)), (2, .int (nI h)), (3, .int (nI Q.1)), (4, .int (nI ((rgS A h Q k).2.1 + 0))), (5, .int (nI 0)), (6, .int (nI k))] dX10_rightOnes_97 hN5 rfl ?_
          refine r_iload hX dX10_rightOnes_99 rfl ?_
          refine r_iload hX dX10_rightOnes_101 rfl ?_
          refine r_ifN_eq hX dX10_rightOnes_103 (by decide) (fun c15 => ?_) (fun c15 => absurd c15 (by decide))
          refine r_iconst hX (nI 0) dX10_rightOnes_110 rfl ?_
          refine r_iaddN hX dX10_rightOnes_111 ?_
          refine r_istore hX [(0, .ref (L.1 0)), (1, .int (nI n)), (2, .int (nI h)), (3, .int (nI Q.1)), (4, .int (nI ((rgS A h Q k).2.1 + 0 + 0))), (5, .int (nI 0)), (6, .int (nI k))] dX10_rightOnes_112 hN4 rfl ?_
          refine r_iincN (n := 1) hX [(0, .ref (L.1 0)), (1, .int (nI n)), (2, .int (nI h)), (3, .int (nI Q.1)), (4, .int (nI ((rgS A h Q k).2.1 + 0 + 0))), (5, .int (nI 0)), (6, .int (nI (k + 1)))] dX10_rightOnes_114 rfl hN6 rfl ?_
          refine r_goto hX dX10_rightOnes_117 ?_
          have hrg := rgS_n c5 (fun z => absurd z.1 (by omega))
          have q16 : (rgS A h Q (k + 1)).2.1 = (rgS A h Q k).2.1 + 0 + 0 := (by rw [hrg]; try rfl)
          have q17 : bI ((rgS A h Q (k + 1)).2.2) = nI 0 := (by rw [hrg]; rfl)
          exact At.to (ih3 _ (by rw [hrg]; exact hR8) (S1.tr hSk hO9)) (by rw [q16, q17]) rfl rfl
        · skip
          refine r_aload_n hX dX10_rightOnes_31 rfl ?_
          refine r_getR hX dX10_rightOnes_32 fl_X10_22 (hM.1 0 (9, 0) rfl) rfl (hM.2 6 5 rfl) ?_
          refine r_iload hX dX10_rightOnes_35 rfl ?_
          refine r_aldN hX dX10_rightOnes_37 (hM.1 5 (10, 60) rfl) (by decide) (by omega) (Q.2 ((rgS A h Q k).2.1)) (((S1.tr hSk hO9) 5 _ (by decide) rfl).trans (hQw _ (by omega))) ?_
          refine r_aload_n hX dX10_rightOnes_38 rfl ?_
          refine r_getIV hX dX10_rightOnes_39 fl_X10_223 (hM.1 0 (9, 0) rfl) rfl (nI ((byT (rgS A h Q k).1).1)) h1710 ?_
          refine r_icmp_ne hX dX10_rightOnes_42 (fun c18 => ?_) (fun c18 => ?_)
          · skip
            refine r_iconst hX (nI 0) dX10_rightOnes_49 rfl ?_
            refine r_istore hX [(0, .ref (L.1 0)), (1, .int (nI n)), (2, .int (nI h)), (3, .int (nI Q.1)), (4, .int (nI ((rgS A h Q k).2.1))), (5, .int (nI 0)), (6, .int (nI k))] dX10_rightOnes_50 hN5 rfl ?_
            refine r_iload hX dX10_rightOnes_52 rfl ?_
            refine r_iload hX dX10_rightOnes_54 rfl ?_
            refine r_ifN_eq hX dX10_rightOnes_56 (by decide) (fun c19 => ?_) (fun c19 => absurd c19 (by decide))
            refine r_iconst hX (nI 0) dX10_rightOnes_63 rfl ?_
            refine r_iaddN hX dX10_rightOnes_64 ?_
            refine r_istore hX [(0, .ref (L.1 0)), (1, .int (nI n)), (2, .int (nI h)), (3, .int (nI Q.1)), (4, .int (nI ((rgS A h Q k).2.1 + 0))), (5, .int (nI 0)), (6, .int (nI k))] dX10_rightOnes_65 hN4 rfl ?_
            refine r_iload hX dX10_rightOnes_67 rfl ?_
            refine r_ifN_eq hX dX10_rightOnes_69 (by decide) (fun c20 => ?_) (fun c20 => absurd c20 (by decide))
            refine r_iconst hX (nI 0) dX10_rightOnes_96 rfl ?_
            refine r_istore hX [(0, .ref (L.1 0)), (1, .int (nI n)), (2, .int (nI h)), (3, .int (nI Q.1)), (4, .int (nI ((rgS A h Q k).2.1 + 0))), (5, .int (nI 0)), (6, .int (nI k))] dX10_rightOnes_97 hN5 rfl ?_
            refine r_iload hX dX10_rightOnes_99 rfl ?_
            refine r_iload hX dX10_rightOnes_101 rfl ?_
            refine r_ifN_eq hX dX10_rightOnes_103 (by decide) (fun c21 => ?_) (fun c21 => absurd c21 (by decide))
            refine r_iconst hX (nI 0) dX10_rightOnes_110 rfl ?_
            refine r_iaddN hX dX10_rightOnes_111 ?_
            refine r_istore hX [(0, .ref (L.1 0)), (1, .int (nI n)), (2, .int (nI h)), (3, .int (nI Q.1)), (4, .int (nI ((rgS A h Q k).2.1 + 0 + 0))), (5, .int (nI 0)), (6, .int (nI k))] dX10_rightOnes_112 hN4 rfl ?_
            refine r_iincN (n := 1) hX [(0, .ref (L.1 0)), (1, .int (nI n)), (2, .int (nI h)), (3, .int (nI Q.1)), (4, .int (nI ((rgS A h Q k).2.1 + 0 + 0))), (5, .int (nI 0)), (6, .int (nI (k + 1)))] dX10_rightOnes_114 rfl hN6 rfl ?_
            refine r_goto hX dX10_rightOnes_117 ?_
            have hrg := rgS_n c5 (fun z => c18 z.2)
            have q22 : (rgS A h Q (k + 1)).2.1 = (rgS A h Q k).2.1 + 0 + 0 := (by rw [hrg]; try rfl)
            have q23 : bI ((rgS A h Q (k + 1)).2.2) = nI 0 := (by rw [hrg]; rfl)
            exact At.to (ih3 _ (by rw [hrg]; exact hR8) (S1.tr hSk hO9)) (by rw [q22, q23]) rfl rfl
          · skip
            refine r_iconst hX (nI 1) dX10_rightOnes_45 rfl ?_
            refine r_goto hX dX10_rightOnes_46 ?_
            refine r_istore hX [(0, .ref (L.1 0)), (1, .int (nI n)), (2, .int (nI h)), (3, .int (nI Q.1)), (4, .int (nI ((rgS A h Q k).2.1))), (5, .int (nI 1)), (6, .int (nI k))] dX10_rightOnes_50 hN5 rfl ?_
            refine r_iload hX dX10_rightOnes_52 rfl ?_
            refine r_iload hX dX10_rightOnes_54 rfl ?_
            refine r_ifN_eq hX dX10_rightOnes_56 (by decide) (fun c24 => absurd c24 (by decide)) (fun c24 => ?_)
            refine r_iconst hX (nI 1) dX10_rightOnes_59 rfl ?_
            refine r_goto hX dX10_rightOnes_60 ?_
            refine r_iaddN hX dX10_rightOnes_64 ?_
            refine r_istore hX [(0, .ref (L.1 0)), (1, .int (nI n)), (2, .int (nI h)), (3, .int (nI Q.1)), (4, .int (nI ((rgS A h Q k).2.1 + 1))), (5, .int (nI 1)), (6, .int (nI k))] dX10_rightOnes_65 hN4 rfl ?_
            refine r_iload hX dX10_rightOnes_67 rfl ?_
            refine r_ifN_eq hX dX10_rightOnes_69 (by decide) (fun c25 => absurd c25 (by decide)) (fun c25 => ?_)
            refine r_iload hX dX10_rightOnes_72 rfl ?_
            refine r_iload_n hX dX10_rightOnes_74 rfl ?_
            refine r_icmpN_ge hX dX10_rightOnes_75 (by omega) (by omega) (fun c26 => ?_) (fun c26 => ?_)
            · skip
              refine r_iconst hX (nI 0) dX10_rightOnes_96 rfl ?_
              refine r_istore hX [(0, .ref (L.1 0)), (1, .int (nI n)), (2, .int (nI h)), (3, .int (nI Q.1)), (4, .int (nI ((rgS A h Q k).2.1 + 1))), (5, .int (nI 0)), (6, .int (nI k))] dX10_rightOnes_97 hN5 rfl ?_
              refine r_iload hX dX10_rightOnes_99 rfl ?_
              refine r_iload hX dX10_rightOnes_101 rfl ?_
              refine r_ifN_eq hX dX10_rightOnes_103 (by decide) (fun c27 => ?_) (fun c27 => absurd c27 (by decide))
              refine r_iconst hX (nI 0) dX10_rightOnes_110 rfl ?_
              refine r_iaddN hX dX10_rightOnes_111 ?_
              refine r_istore hX [(0, .ref (L.1 0)), (1, .int (nI n)), (2, .int (nI h)), (3, .int (nI Q.1)), (4, .int (nI ((rgS A h Q k).2.1 + 1 + 0))), (5, .int (nI 0)), (6, .int (nI k))] dX10_rightOnes_112 hN4 rfl ?_
              refine r_iincN (n := 1) hX [(0, .ref (L.1 0)), (1, .int (nI n)), (2, .int (nI h)), (3, .int (nI Q.1)), (4, .int (nI ((rgS A h Q k).2.1 + 1 + 0))), (5, .int (nI 0)), (6, .int (nI (k + 1)))] dX10_rightOnes_114 rfl hN6 rfl ?_
              refine r_goto hX dX10_rightOnes_117 ?_
              have hrg := rgS_m c5 c12 c18 (fun z => absurd z.1 (by omega))
              have q28 : (rgS A h Q (k + 1)).2.1 = (rgS A h Q k).2.1 + 1 + 0 := (by rw [hrg]; try rfl)
              have q29 : bI ((rgS A h Q (k + 1)).2.2) = nI 0 := (by rw [hrg]; rfl)
              exact At.to (ih3 _ (by rw [hrg]; exact hR8) (S1.tr hSk hO9)) (by rw [q28, q29]) rfl rfl
            · skip
              refine r_aload_n hX dX10_rightOnes_78 rfl ?_
              refine r_getR hX dX10_rightOnes_79 fl_X10_22 (hM.1 0 (9, 0) rfl) rfl (hM.2 6 5 rfl) ?_
              refine r_iload hX dX10_rightOnes_82 rfl ?_
              refine r_aldN hX dX10_rightOnes_84 (hM.1 5 (10, 60) rfl) (by decide) (by omega) (Q.2 ((rgS A h Q k).2.1 + 1)) (((S1.tr hSk hO9) 5 _ (by decide) rfl).trans (hQw _ (by omega))) ?_
              refine r_aload_n hX dX10_rightOnes_85 rfl ?_
              refine r_getIV hX dX10_rightOnes_86 fl_X10_226 (hM.1 0 (9, 0) rfl) rfl (nI (byR (rgS A h Q k).1)) h1811 ?_
              refine r_icmp_ne hX dX10_rightOnes_89 (fun c30 => ?_) (fun c30 => ?_)
              · skip
                refine r_iconst hX (nI 0) dX10_rightOnes_96 rfl ?_
                refine r_istore hX [(0, .ref (L.1 0)), (1, .int (nI n)), (2, .int (nI h)), (3, .int (nI Q.1)), (4, .int (nI ((rgS A h Q k).2.1 + 1))), (5, .int (nI 0)), (6, .int (nI k))] dX10_rightOnes_97 hN5 rfl ?_
                refine r_iload hX dX10_rightOnes_99 rfl ?_
                refine r_iload hX dX10_rightOnes_101 rfl ?_
                refine r_ifN_eq hX dX10_rightOnes_103 (by decide) (fun c31 => ?_) (fun c31 => absurd c31 (by decide))
                refine r_iconst hX (nI 0) dX10_rightOnes_110 rfl ?_
                refine r_iaddN hX dX10_rightOnes_111 ?_
                refine r_istore hX [(0, .ref (L.1 0)), (1, .int (nI n)), (2, .int (nI h)), (3, .int (nI Q.1)), (4, .int (nI ((rgS A h Q k).2.1 + 1 + 0))), (5, .int (nI 0)), (6, .int (nI k))] dX10_rightOnes_112 hN4 rfl ?_
                refine r_iincN (n := 1) hX [(0, .ref (L.1 0)), (1, .int (nI n)), (2, .int (nI h)), (3, .int (nI Q.1)), (4, .int (nI ((rgS A h Q k).2.1 + 1 + 0))), (5, .int (nI 0)), (6, .int (nI (k + 1)))] dX10_rightOnes_114 rfl hN6 rfl ?_
                refine r_goto hX dX10_rightOnes_117 ?_
                have hrg := rgS_m c5 c12 c18 (fun z => c30 z.2)
                have q32 : (rgS A h Q (k + 1)).2.1 = (rgS A h Q k).2.1 + 1 + 0 := (by rw [hrg]; try rfl)
                have q33 : bI ((rgS A h Q (k + 1)).2.2) = nI 0 := (by rw [hrg]; rfl)
                exact At.to (ih3 _ (by rw [hrg]; exact hR8) (S1.tr hSk hO9)) (by rw [q32, q33]) rfl rfl
              · skip
                refine r_iconst hX (nI 1) dX10_rightOnes_92 rfl ?_
                refine r_goto hX dX10_rightOnes_93 ?_
                refine r_istore hX [(0, .ref (L.1 0)), (1, .int (nI n)), (2, .int (nI h)), (3, .int (nI Q.1)), (4, .int (nI ((rgS A h Q k).2.1 + 1))), (5, .int (nI 1)), (6, .int (nI k))] dX10_rightOnes_97 hN5 rfl ?_
                refine r_iload hX dX10_rightOnes_99 rfl ?_
                refine r_iload hX dX10_rightOnes_101 rfl ?_
                refine r_ifN_eq hX dX10_rightOnes_103 (by decide) (fun c34 => absurd c34 (by decide)) (fun c34 => ?_)
                refine r_iconst hX (nI 1) dX10_rightOnes_106 rfl ?_
                refine r_goto hX dX10_rightOnes_107 ?_
                refine r_iaddN hX dX10_rightOnes_111 ?_
                refine r_istore hX [(0, .ref (L.1 0)), (1, .int (nI n)), (2, .int (nI h)), (3, .int (nI Q.1)), (4, .int (nI ((rgS A h Q k).2.1 + 1 + 1))), (5, .int (nI 1)), (6, .int (nI k))] dX10_rightOnes_112 hN4 rfl ?_
                refine r_iincN (n := 1) hX [(0, .ref (L.1 0)), (1, .int (nI n)), (2, .int (nI h)), (3, .int (nI Q.1)), (4, .int (nI ((rgS A h Q k).2.1 + 1 + 1))), (5, .int (nI 1)), (6, .int (nI (k + 1)))] dX10_rightOnes_114 rfl hN6 rfl ?_
                refine r_goto hX dX10_rightOnes_117 ?_
                have hrg := rgS_y c5 c12 c18 c26 c30
                have q35 : (rgS A h Q (k + 1)).2.1 = (rgS A h Q k).2.1 + 1 + 1 := (by rw [hrg]; try rfl)
                have q36 : bI ((rgS A h Q (k + 1)).2.2) = nI 1 := (by rw [hrg]; rfl)
                exact At.to (ih3 _ (by rw [hrg]; exact hR8) (S1.tr hSk hO9)) (by rw [q35, q36]) rfl rfl
  exact At.to (P1 0 (Nat.zero_le _) σ hR (S1.rf σ)) rfl rfl rfl
