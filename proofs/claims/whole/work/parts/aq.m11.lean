set_option maxHeartbeats 4000000 in
set_option maxRecDepth 100000 in
theorem c_X10_buy {l : Launch} {D : Ds} {L : La} (hM : MAt L) (σ : Me) (A : Al) (hR : RM (σ 1) A) (hV : Va A) (n h : Int32) : Ct l yX10_buy cX10_buy 5 (some .int) { frames := 10, cells := 0, slots := 0, locals := 227 } D L σ [.ref (L.1 0), .int n, .int h] (PI L (fun r σ2 => r = (oBuy A n h).1 ∧ RM (σ2 1) (oBuy A n h).2 ∧ S1 σ σ2)) := by
  refine Ct.of (by decide) (Nat.le_of_ble_eq_true rfl) ?_
  intro X hl hD hnl hX0 hQ
  have hX : Ok X cX10_buy RX10 "buy" { frames := 10, cells := 0, slots := 0, locals := 227 } (some .int) := hX0
  have hN3 : 3 < xn X := by rw [hnl]; decide
  have hN4 : 4 < xn X := by rw [hnl]; decide
  have hT := hV.1
  have hNn := hV.2.1
  have hW := hV.2.2.1
  show At X L σ 0 0 [(0, .ref (L.1 0)), (1, .int n), (2, .int h)] 0 []
  refine r_iload_n hX dX10_buy_0 rfl ?_
  refine r_iconst hX (nI 1) dX10_buy_1 rfl ?_
  refine r_bipush hX (nI 20) dX10_buy_2 rfl ?_
  refine r_callSF (As := [.int n, .int (nI 1), .int (nI 20)]) (rest := []) hX (c_X10_in σ n (nI 1) (nI 20)) dX10_buy_4 cb_X10_68 rfl rfl ⟨Nat.le_of_ble_eq_true rfl, Nat.le_of_ble_eq_true rfl⟩ ⟨Nat.le_of_ble_eq_true rfl, Nat.le_of_ble_eq_true rfl⟩ (Nat.le_of_ble_eq_true rfl) ?_
  refine r_ifB_eq hX dX10_buy_7 (fun c1 => ?_) (fun c1 => ?_)
  · skip
    refine r_ldc hX dX10_buy_21 ko_X10_72 ?_
    exact r_ireturn hX hQ dX10_buy_23 ⟨Nat.le_of_ble_eq_true rfl, Nat.le_of_ble_eq_true rfl⟩ (PI.mk (by rw [oBuy, if_neg (fun e => by have e := e.1; rw [c1] at e; cases e)]; exact ⟨rfl, hR, (S1.rf σ)⟩))
  · skip
    obtain ⟨q, hql, hq, rfl⟩ := inB_nat c1 (by decide) (by decide)
    refine r_iload_n hX dX10_buy_10 rfl ?_
    refine r_iconst hX (nI 0) dX10_buy_11 rfl ?_
    refine r_sipush hX (nI 999) dX10_buy_12 rfl ?_
    refine r_callSF (As := [.int h, .int (nI 0), .int (nI 999)]) (rest := []) hX (c_X10_in σ h (nI 0) (nI 999)) dX10_buy_15 cb_X10_68 rfl rfl ⟨Nat.le_of_ble_eq_true rfl, Nat.le_of_ble_eq_true rfl⟩ ⟨Nat.le_of_ble_eq_true rfl, Nat.le_of_ble_eq_true rfl⟩ (Nat.le_of_ble_eq_true rfl) ?_
    refine r_ifB_ne hX dX10_buy_18 (fun c2 => ?_) (fun c2 => ?_)
    · skip
      obtain ⟨y, hyl, hy, rfl⟩ := inB_nat c2 (by decide) (by decide)
      refine r_aload_n hX dX10_buy_24 rfl ?_
      refine r_getR hX dX10_buy_25 fl_X10_9 (hM.1 0 (9, 0) rfl) rfl (hM.2 0 1 rfl) ?_
      refine r_iconst hX (nI 0) dX10_buy_28 rfl ?_
      refine r_aldN hX dX10_buy_29 (hM.1 1 (10, 1605) rfl) (by decide) (by decide) (nI (aT A)) hR.1 ?_
      refine r_ifN_ne hX dX10_buy_30 (by omega) (fun c3 => ?_) (fun c3 => ?_)
      · skip
        refine r_iconst hX (nI 0) dX10_buy_36 rfl ?_
        refine r_istore_n hX [(0, .ref (L.1 0)), (1, .int (nI q)), (2, .int (nI y)), (3, .int (nI 0))] dX10_buy_37 hN3 rfl ?_
        refine r_iconst hX (nI 0) dX10_buy_38 rfl ?_
        refine r_istore hX [(0, .ref (L.1 0)), (1, .int (nI q)), (2, .int (nI y)), (3, .int (nI 0)), (4, .int (nI 0))] dX10_buy_39 hN4 rfl ?_
        have P4 : ∀ k, k ≤ q → ∀ (σk : Me) (hRk : RM (σk 1) (buyK A y k).1) (hSk : S1 σ σk), At X L σk 0 0 [(0, .ref (L.1 0)), (1, .int (nI q)), (2, .int (nI y)), (3, .int (nI ((buyK A y k).2))), (4, .int (nI k))] 41 [] := by
          refine loopUp q ?_ ?_
          · skip
            intro σk hRk hSk
            refine r_iload hX dX10_buy_41 rfl ?_
            refine r_iload_n hX dX10_buy_43 rfl ?_
            refine r_icmpN_ge hX dX10_buy_44 (by omega) (by omega) (fun c5 => ?_) (fun c5 => absurd c5 (by omega))
            refine r_iload_n hX dX10_buy_73 rfl ?_
            exact r_ireturn hX hQ dX10_buy_74 ⟨Nat.le_of_ble_eq_true rfl, Nat.le_of_ble_eq_true rfl⟩ (PI.mk (by rw [oBuy, if_pos ⟨c1, c2⟩, if_neg c3, nI_clamp (by omega), nI_clamp (by omega)]; exact ⟨rfl, hRk, hSk⟩))
          · skip
            intro k hk ih6 σk hRk hSk
            have hvk := va_buyK hV (by omega : 0 < aT A) hy k
            refine r_iload hX dX10_buy_41 rfl ?_
            refine r_iload_n hX dX10_buy_43 rfl ?_
            refine r_icmpN_ge hX dX10_buy_44 (by omega) (by omega) (fun c7 => absurd c7 (by omega)) (fun c7 => ?_)
            refine r_aload_n hX dX10_buy_47 rfl ?_
            refine r_iload_n hX dX10_buy_48 rfl ?_
            refine r_callVV (As := [.int (nI y)]) (rest := []) hX (c_X10_buys hM σk (buyK A y k).1 hRk hvk.1 y (by rw [hvk.2.1]; omega) (by omega)) dX10_buy_49 cb_X10_230 (hM.1 0 (9, 0) rfl) rfl rfl ⟨Nat.le_of_ble_eq_true rfl, Nat.le_of_ble_eq_true rfl⟩ ⟨Nat.le_of_ble_eq_true rfl, Nat.le_of_ble_eq_true rfl⟩ (Nat.le_of_ble_eq_true rfl) (fun σ8 h9 => ?_)
            obtain ⟨h1712, h1813, hR10, hO11⟩ := h9
            refine r_iload_n hX dX10_buy_52 rfl ?_
            refine r_aload_n hX dX10_buy_53 rfl ?_
            refine r_getIV hX dX10_buy_54 fl_X10_226 (hM.1 0 (9, 0) rfl) rfl (nI (byR (buyK A y k).1)) h1813 ?_
            refine r_ifN_le hX dX10_buy_57 (by unfold byR; have := byS_in (buyK A y k).1; split <;> omega) (fun c14 => ?_) (fun c14 => ?_)
            · skip
              refine r_iconst hX (nI 0) dX10_buy_64 rfl ?_
              refine r_iaddN hX dX10_buy_65 ?_
              refine r_istore_n hX [(0, .ref (L.1 0)), (1, .int (nI q)), (2, .int (nI y)), (3, .int (nI ((buyK A y k).2 + 0))), (4, .int (nI k))] dX10_buy_66 hN3 rfl ?_
              refine r_iincN (n := 1) hX [(0, .ref (L.1 0)), (1, .int (nI q)), (2, .int (nI y)), (3, .int (nI ((buyK A y k).2 + 0))), (4, .int (nI (k + 1)))] dX10_buy_67 rfl hN4 rfl ?_
              refine r_goto hX dX10_buy_70 ?_
              have q15 : (buyK A y (k + 1)).2 = (buyK A y k).2 + 0 := (by rw [buyK]; show (buyK A y k).2 + (if 0 < byR (buyK A y k).1 then 1 else 0) = _; rw [if_neg (by omega)])
              exact At.to (ih6 _ hR10 (S1.tr hSk hO11)) (by rw [q15]) rfl rfl
            · skip
              refine r_iconst hX (nI 1) dX10_buy_60 rfl ?_
              refine r_goto hX dX10_buy_61 ?_
              refine r_iaddN hX dX10_buy_65 ?_
              refine r_istore_n hX [(0, .ref (L.1 0)), (1, .int (nI q)), (2, .int (nI y)), (3, .int (nI ((buyK A y k).2 + 1))), (4, .int (nI k))] dX10_buy_66 hN3 rfl ?_
              refine r_iincN (n := 1) hX [(0, .ref (L.1 0)), (1, .int (nI q)), (2, .int (nI y)), (3, .int (nI ((buyK A y k).2 + 1))), (4, .int (nI (k + 1)))] dX10_buy_67 rfl hN4 rfl ?_
              refine r_goto hX dX10_buy_70 ?_
              have q16 : (buyK A y (k + 1)).2 = (buyK A y k).2 + 1 := (by rw [buyK]; show (buyK A y k).2 + (if 0 < byR (buyK A y k).1 then 1 else 0) = _; rw [if_pos c14])
              exact At.to (ih6 _ hR10 (S1.tr hSk hO11)) (by rw [q16]) rfl rfl
        exact At.to (P4 0 (Nat.zero_le _) σ hR (S1.rf σ)) rfl rfl rfl
      · skip
        refine r_ldc hX dX10_buy_33 ko_X10_229 ?_
        exact r_ireturn hX hQ dX10_buy_35 ⟨Nat.le_of_ble_eq_true rfl, Nat.le_of_ble_eq_true rfl⟩ (PI.mk (by rw [oBuy, if_pos ⟨c1, c2⟩, if_pos c3]; exact ⟨rfl, hR, (S1.rf σ)⟩))
    · skip
      refine r_ldc hX dX10_buy_21 ko_X10_72 ?_
      exact r_ireturn hX hQ dX10_buy_23 ⟨Nat.le_of_ble_eq_true rfl, Nat.le_of_ble_eq_true rfl⟩ (PI.mk (by rw [oBuy, if_neg (fun e => by have e := e.2; rw [c2] at e; cases e)]; exact ⟨rfl, hR, (S1.rf σ)⟩))

set_option maxHeartbeats 4000000 in
set_option maxRecDepth 100000 in
theorem c_X10_group {l : Launch} {D : Ds} {L : La} (hM : MAt L) (σ : Me) (A : Al) (hR : RM (σ 1) A) (hV : Va A) (k w : Int32) : Ct l yX10_group cX10_group 7 (some .int) { frames := 3, cells := 0, slots := 0, locals := 74 } D L σ [.ref (L.1 0), .int k, .int w] (PI L (fun r σ2 => r = oGroup A k w ∧ Sm σ σ2)) := by
  refine Ct.of (by decide) (Nat.le_of_ble_eq_true rfl) ?_
  intro X hl hD hnl hX0 hQ
  have hX : Ok X cX10_group RX10 "group" { frames := 3, cells := 0, slots := 0, locals := 74 } (some .int) := hX0
  have hN3 : 3 < xn X := by rw [hnl]; decide
  have hN4 : 4 < xn X := by rw [hnl]; decide
  have hN5 : 5 < xn X := by rw [hnl]; decide
  have hN6 : 6 < xn X := by rw [hnl]; decide
  have hT := hV.1
  have hNn := hV.2.1
  have hW := hV.2.2.1
  have h2n := two_le hNn
  have h2p := two_pos (aN A)
  show At X L σ 0 0 [(0, .ref (L.1 0)), (1, .int k), (2, .int w)] 0 []
  refine r_iload_n hX dX10_group_0 rfl ?_
  refine r_iconst hX (nI 1) dX10_group_1 rfl ?_
  refine r_bipush hX (nI 6) dX10_group_2 rfl ?_
  refine r_callSF (As := [.int k, .int (nI 1), .int (nI 6)]) (rest := []) hX (c_X10_in σ k (nI 1) (nI 6)) dX10_group_4 cb_X10_68 rfl rfl ⟨Nat.le_of_ble_eq_true rfl, Nat.le_of_ble_eq_true rfl⟩ ⟨Nat.le_of_ble_eq_true rfl, Nat.le_of_ble_eq_true rfl⟩ (Nat.le_of_ble_eq_true rfl) ?_
  refine r_ifB_eq hX dX10_group_7 (fun c1 => ?_) (fun c1 => ?_)
  · skip
    refine r_ldc hX dX10_group_21 ko_X10_72 ?_
    exact r_ireturn hX hQ dX10_group_23 ⟨Nat.le_of_ble_eq_true rfl, Nat.le_of_ble_eq_true rfl⟩ (PI.mk ⟨by rw [oGroup, if_neg (fun e => by have e := e.1; rw [c1] at e; cases e)], (Sm.rf σ)⟩)
  · skip
    obtain ⟨q, hql, hq, rfl⟩ := inB_nat c1 (by decide) (by decide)
    refine r_iload_n hX dX10_group_10 rfl ?_
    refine r_iconst hX (nI 0) dX10_group_11 rfl ?_
    refine r_sipush hX (nI 999) dX10_group_12 rfl ?_
    refine r_callSF (As := [.int w, .int (nI 0), .int (nI 999)]) (rest := []) hX (c_X10_in σ w (nI 0) (nI 999)) dX10_group_15 cb_X10_68 rfl rfl ⟨Nat.le_of_ble_eq_true rfl, Nat.le_of_ble_eq_true rfl⟩ ⟨Nat.le_of_ble_eq_true rfl, Nat.le_of_ble_eq_true rfl⟩ (Nat.le_of_ble_eq_true rfl) ?_
    refine r_ifB_ne hX dX10_group_18 (fun c2 => ?_) (fun c2 => ?_)
    · skip
      obtain ⟨y, hyl, hy, rfl⟩ := inB_nat c2 (by decide) (by decide)
      refine r_iconst hX (nI 0) dX10_group_24 rfl ?_
      refine r_istore_n hX [(0, .ref (L.1 0)), (1, .int (nI q)), (2, .int (nI y)), (3, .int (nI 0))] dX10_group_25 hN3 rfl ?_
      have P3 : ∀ a, a ≤ aN A → ∀ (σk : Me) (hSk : Sm σ σk) (hfr : ∀ b, b < a → σk 7 b = frI A q y b (aN A)), At X L σk 0 0 [(0, .ref (L.1 0)), (1, .int (nI q)), (2, .int (nI y)), (3, .int (nI a))] 26 [] := by
        refine loopUp (aN A) ?_ ?_
        · skip
          intro σk hSk hfr
          have hRk := hSk.rm hR
          refine r_iload_n hX dX10_group_26 rfl ?_
          refine r_aload_n hX dX10_group_27 rfl ?_
          refine r_getR hX dX10_group_28 fl_X10_9 (hM.1 0 (9, 0) rfl) rfl (hM.2 0 1 rfl) ?_
          refine r_iconst hX (nI 1) dX10_group_31 rfl ?_
          refine r_aldN hX dX10_group_32 (hM.1 1 (10, 1605) rfl) (by decide) (by decide) (nI (aN A)) hRk.2.1 ?_
          refine r_icmpN_ge hX dX10_group_33 (by omega) (by omega) (fun c4 => ?_) (fun c4 => absurd c4 (by omega))
          refine r_iconst hX (nI 0) dX10_group_106 rfl ?_
          refine r_istore_n hX [(0, .ref (L.1 0)), (1, .int (nI q)), (2, .int (nI y)), (3, .int (nI 0))] dX10_group_107 hN3 rfl ?_
          refine r_iconst hX (nI 1) dX10_group_108 rfl ?_
          refine r_istore hX [(0, .ref (L.1 0)), (1, .int (nI q)), (2, .int (nI y)), (3, .int (nI 0)), (4, .int (nI 1))] dX10_group_109 hN4 rfl ?_
          have P5 : ∀ i, i ≤ 2 ^ aN A - 1 → At X L σk 0 0 [(0, .ref (L.1 0)), (1, .int (nI q)), (2, .int (nI y)), (3, .int (nI (bst (fun a => frI A q y a (aN A)) (aN A) i))), (4, .int (nI (1 + i)))] 111 [] := by
            refine loopUp (2 ^ aN A - 1) ?_ ?_
            · skip
              have hbl := bst_le (fun a => frI A q y a (aN A)) (aN A) (2 ^ aN A - 1)
              refine r_iload hX dX10_group_111 rfl ?_
              refine r_iconst hX (nI 1) dX10_group_113 rfl ?_
              refine r_aload_n hX dX10_group_114 rfl ?_
              refine r_getR hX dX10_group_115 fl_X10_9 (hM.1 0 (9, 0) rfl) rfl (hM.2 0 1 rfl) ?_
              refine r_iconst hX (nI 1) dX10_group_118 rfl ?_
              refine r_aldN hX dX10_group_119 (hM.1 1 (10, 1605) rfl) (by decide) (by decide) (nI (aN A)) hRk.2.1 ?_
              refine r_ishl hX dX10_group_120 ?_
              rw [shl1 (aN A) hNn]
              refine r_icmpN_ge hX dX10_group_121 (by omega) (by omega) (fun c6 => ?_) (fun c6 => absurd c6 (by omega))
              refine r_iload_n hX dX10_group_218 rfl ?_
              exact r_ireturn hX hQ dX10_group_219 ⟨Nat.le_of_ble_eq_true rfl, Nat.le_of_ble_eq_true rfl⟩ (PI.mk ⟨by rw [oGroup, if_pos ⟨c1, c2⟩, nI_clamp (by omega), nI_clamp (by omega)]; rfl, hSk⟩)
            · skip
              intro i hi ih7
              have hbl := bst_le (fun a => frI A q y a (aN A)) (aN A) i
              have hp1 := pc12_le (1 + i) (by omega)
              have hp2 := pc12_le (bst (fun a => frI A q y a (aN A)) (aN A) i) (by omega)
              refine r_iload hX dX10_group_111 rfl ?_
              refine r_iconst hX (nI 1) dX10_group_113 rfl ?_
              refine r_aload_n hX dX10_group_114 rfl ?_
              refine r_getR hX dX10_group_115 fl_X10_9 (hM.1 0 (9, 0) rfl) rfl (hM.2 0 1 rfl) ?_
              refine r_iconst hX (nI 1) dX10_group_118 rfl ?_
              refine r_aldN hX dX10_group_119 (hM.1 1 (10, 1605) rfl) (by decide) (by decide) (nI (aN A)) hRk.2.1 ?_
              refine r_ishl hX dX10_group_120 ?_
              rw [shl1 (aN A) hNn]
              refine r_icmpN_ge hX dX10_group_121 (by omega) (by omega) (fun c8 => absurd c8 (by omega)) (fun c8 => ?_)
              refine r_iload hX dX10_group_124 rfl ?_
              refine r_callSF (As := [.int (nI (1 + i))]) (rest := []) hX (c_X10_ones σk (1 + i) (by omega)) dX10_group_126 cb_X10_206 rfl rfl ⟨Nat.le_of_ble_eq_true rfl, Nat.le_of_ble_eq_true rfl⟩ ⟨Nat.le_of_ble_eq_true rfl, Nat.le_of_ble_eq_true rfl⟩ (Nat.le_of_ble_eq_true rfl) ?_
              refine r_iload_n hX dX10_group_129 rfl ?_
              refine r_callSF (As := [.int (nI (bst (fun a => frI A q y a (aN A)) (aN A) i))]) (rest := [.int (nI (pc12 (1 + i)))]) hX (c_X10_ones σk (bst (fun a => frI A q y a (aN A)) (aN A) i) (by omega)) dX10_group_130 cb_X10_206 rfl rfl ⟨Nat.le_of_ble_eq_true rfl, Nat.le_of_ble_eq_true rfl⟩ ⟨Nat.le_of_ble_eq_true rfl, Nat.le_of_ble_eq_true rfl⟩ (Nat.le_of_ble_eq_true rfl) ?_
              refine r_icmpN_le hX dX10_group_133 (by omega) (by omega) (fun c9 => ?_) (fun c9 => ?_)
              · skip
                refine r_iconst hX (nI 0) dX10_group_140 rfl ?_
                refine r_istore hX [(0, .ref (L.1 0)), (1, .int (nI q)), (2, .int (nI y)), (3, .int (nI (bst (fun a => frI A q y a (aN A)) (aN A) i))), (4, .int (nI (1 + i))), (5, .int (nI 0))] dX10_group_141 hN5 rfl ?_
                refine r_iconst hX (nI 0) dX10_group_143 rfl ?_
                refine r_istore hX [(0, .ref (L.1 0)), (1, .int (nI q)), (2, .int (nI y)), (3, .int (nI (bst (fun a => frI A q y a (aN A)) (aN A) i))), (4, .int (nI (1 + i))), (5, .int (nI 0)), (6, .int (nI 0))] dX10_group_144 hN6 rfl ?_
                refine r_iload hX dX10_group_146 rfl ?_
                refine r_aload_n hX dX10_group_148 rfl ?_
                refine r_getR hX dX10_group_149 fl_X10_9 (hM.1 0 (9, 0) rfl) rfl (hM.2 0 1 rfl) ?_
                refine r_iconst hX (nI 1) dX10_group_152 rfl ?_
                refine r_aldN hX dX10_group_153 (hM.1 1 (10, 1605) rfl) (by decide) (by decide) (nI (aN A)) hRk.2.1 ?_
                refine r_icmpN_ge hX dX10_group_154 (by decide) (by omega) (fun c10 => ?_) (fun c10 => ?_)
                · skip
                  refine r_iload hX dX10_group_200 rfl ?_
                  refine r_ifN_eq hX dX10_group_202 (by decide) (fun c11 => ?_) (fun c11 => absurd c11 (by decide))
                  refine r_iload_n hX dX10_group_210 rfl ?_
                  refine r_istore_n hX [(0, .ref (L.1 0)), (1, .int (nI q)), (2, .int (nI y)), (3, .int (nI (bst (fun a => frI A q y a (aN A)) (aN A) i))), (4, .int (nI (1 + i))), (5, .int (nI 0)), (6, .int (nI 0))] dX10_group_211 hN3 rfl ?_
                  refine r_iincN (n := 1) hX [(0, .ref (L.1 0)), (1, .int (nI q)), (2, .int (nI y)), (3, .int (nI (bst (fun a => frI A q y a (aN A)) (aN A) i))), (4, .int (nI (1 + i + 1))), (5, .int (nI 0)), (6, .int (nI 0))] dX10_group_212 rfl hN4 rfl ?_
                  refine r_goto hX dX10_group_215 ?_
                  have q12 : bst (fun a => frI A q y a (aN A)) (aN A) (i + 1) = bst (fun a => frI A q y a (aN A)) (aN A) i := (bst_n1 c9)
                  have q13 : 1 + (i + 1) = 1 + i + 1 := (by omega)
                  exact At.less (At.to (ls := [(0, .ref (L.1 0)), (1, .int (nI q)), (2, .int (nI y)), (3, .int (nI (bst (fun a => frI A q y a (aN A)) (aN A) i))), (4, .int (nI (1 + i + 1)))]) ih7 (by rw [q12, q13]) rfl rfl) (by simp)
                · skip
                  refine r_iload hX dX10_group_157 rfl ?_
                  refine r_ifN_eq hX dX10_group_159 (by decide) (fun c14 => ?_) (fun c14 => absurd c14 (by decide))
                  refine r_iload hX dX10_group_200 rfl ?_
                  refine r_ifN_eq hX dX10_group_202 (by decide) (fun c15 => ?_) (fun c15 => absurd c15 (by decide))
                  refine r_iload_n hX dX10_group_210 rfl ?_
                  refine r_istore_n hX [(0, .ref (L.1 0)), (1, .int (nI q)), (2, .int (nI y)), (3, .int (nI (bst (fun a => frI A q y a (aN A)) (aN A) i))), (4, .int (nI (1 + i))), (5, .int (nI 0)), (6, .int (nI 0))] dX10_group_211 hN3 rfl ?_
                  refine r_iincN (n := 1) hX [(0, .ref (L.1 0)), (1, .int (nI q)), (2, .int (nI y)), (3, .int (nI (bst (fun a => frI A q y a (aN A)) (aN A) i))), (4, .int (nI (1 + i + 1))), (5, .int (nI 0)), (6, .int (nI 0))] dX10_group_212 rfl hN4 rfl ?_
                  refine r_goto hX dX10_group_215 ?_
                  have q16 : bst (fun a => frI A q y a (aN A)) (aN A) (i + 1) = bst (fun a => frI A q y a (aN A)) (aN A) i := (bst_n1 c9)
                  have q17 : 1 + (i + 1) = 1 + i + 1 := (by omega)
                  exact At.less (At.to (ls := [(0, .ref (L.1 0)), (1, .int (nI q)), (2, .int (nI y)), (3, .int (nI (bst (fun a => frI A q y a (aN A)) (aN A) i))), (4, .int (nI (1 + i + 1)))]) ih7 (by rw [q16, q17]) rfl rfl) (by simp)
              · skip
                refine r_iconst hX (nI 1) dX10_group_136 rfl ?_
                refine r_goto hX dX10_group_137 ?_
                refine r_istore hX [(0, .ref (L.1 0)), (1, .int (nI q)), (2, .int (nI y)), (3, .int (nI (bst (fun a => frI A q y a (aN A)) (aN A) i))), (4, .int (nI (1 + i))), (5, .int (nI 1))] dX10_group_141 hN5 rfl ?_
                refine r_iconst hX (nI 0) dX10_group_143 rfl ?_
                refine r_istore hX [(0, .ref (L.1 0)), (1, .int (nI q)), (2, .int (nI y)), (3, .int (nI (bst (fun a => frI A q y a (aN A)) (aN A) i))), (4, .int (nI (1 + i))), (5, .int (nI 1)), (6, .int (nI 0))] dX10_group_144 hN6 rfl ?_
                have P18 : ∀ d, d ≤ aN A → At X L σk 0 0 [(0, .ref (L.1 0)), (1, .int (nI q)), (2, .int (nI y)), (3, .int (nI (bst (fun a => frI A q y a (aN A)) (aN A) i))), (4, .int (nI (1 + i))), (5, .int (bI (allB (gokB (fun a => frI A q y a (aN A)) (1 + i)) d))), (6, .int (nI d))] 146 [] := by
                  refine loopUp (aN A) ?_ ?_
                  · skip
                    refine r_iload hX dX10_group_146 rfl ?_
                    refine r_aload_n hX dX10_group_148 rfl ?_
                    refine r_getR hX dX10_group_149 fl_X10_9 (hM.1 0 (9, 0) rfl) rfl (hM.2 0 1 rfl) ?_
                    refine r_iconst hX (nI 1) dX10_group_152 rfl ?_
                    refine r_aldN hX dX10_group_153 (hM.1 1 (10, 1605) rfl) (by decide) (by decide) (nI (aN A)) hRk.2.1 ?_
                    refine r_icmpN_ge hX dX10_group_154 (by omega) (by omega) (fun c19 => ?_) (fun c19 => absurd c19 (by omega))
                    refine r_iload hX dX10_group_200 rfl ?_
                    refine r_ifB_eq hX dX10_group_202 (fun c20 => ?_) (fun c20 => ?_)
                    · skip
                      refine r_iload_n hX dX10_group_210 rfl ?_
                      refine r_istore_n hX [(0, .ref (L.1 0)), (1, .int (nI q)), (2, .int (nI y)), (3, .int (nI (bst (fun a => frI A q y a (aN A)) (aN A) i))), (4, .int (nI (1 + i))), (5, .int (bI (allB (gokB (fun a => frI A q y a (aN A)) (1 + i)) (aN A)))), (6, .int (nI (aN A)))] dX10_group_211 hN3 rfl ?_
                      refine r_iincN (n := 1) hX [(0, .ref (L.1 0)), (1, .int (nI q)), (2, .int (nI y)), (3, .int (nI (bst (fun a => frI A q y a (aN A)) (aN A) i))), (4, .int (nI (1 + i + 1))), (5, .int (bI (allB (gokB (fun a => frI A q y a (aN A)) (1 + i)) (aN A)))), (6, .int (nI (aN A)))] dX10_group_212 rfl hN4 rfl ?_
                      refine r_goto hX dX10_group_215 ?_
                      have q21 : bst (fun a => frI A q y a (aN A)) (aN A) (i + 1) = bst (fun a => frI A q y a (aN A)) (aN A) i := (bst_n2 (allB_le c20 (by omega)))
                      have q22 : 1 + (i + 1) = 1 + i + 1 := (by omega)
                      exact At.less (At.to (ls := [(0, .ref (L.1 0)), (1, .int (nI q)), (2, .int (nI y)), (3, .int (nI (bst (fun a => frI A q y a (aN A)) (aN A) i))), (4, .int (nI (1 + i + 1)))]) ih7 (by rw [q21, q22]) rfl rfl) (by simp)
                    · skip
                      refine r_iload hX dX10_group_205 rfl ?_
                      refine r_goto hX dX10_group_207 ?_
                      refine r_istore_n hX [(0, .ref (L.1 0)), (1, .int (nI q)), (2, .int (nI y)), (3, .int (nI (1 + i))), (4, .int (nI (1 + i))), (5, .int (bI (allB (gokB (fun a => frI A q y a (aN A)) (1 + i)) (aN A)))), (6, .int (nI (aN A)))] dX10_group_211 hN3 rfl ?_
                      refine r_iincN (n := 1) hX [(0, .ref (L.1 0)), (1, .int (nI q)), (2, .int (nI y)), (3, .int (nI (1 + i))), (4, .int (nI (1 + i + 1))), (5, .int (bI (allB (gokB (fun a => frI A q y a (aN A)) (1 + i)) (aN A)))), (6, .int (nI (aN A)))] dX10_group_212 rfl hN4 rfl ?_
                      refine r_goto hX dX10_group_215 ?_
                      have q23 : bst (fun a => frI A q y a (aN A)) (aN A) (i + 1) = 1 + i := (bst_y c9 c20)
                      have q24 : 1 + (i + 1) = 1 + i + 1 := (by omega)
                      exact At.less (At.to (ls := [(0, .ref (L.1 0)), (1, .int (nI q)), (2, .int (nI y)), (3, .int (nI (1 + i))), (4, .int (nI (1 + i + 1)))]) ih7 (by rw [q23, q24]) rfl rfl) (by simp)
                  · skip
                    intro d hd ih25
                    refine r_iload hX dX10_group_146 rfl ?_
                    refine r_aload_n hX dX10_group_148 rfl ?_
                    refine r_getR hX dX10_group_149 fl_X10_9 (hM.1 0 (9, 0) rfl) rfl (hM.2 0 1 rfl) ?_
                    refine r_iconst hX (nI 1) dX10_group_152 rfl ?_
                    refine r_aldN hX dX10_group_153 (hM.1 1 (10, 1605) rfl) (by decide) (by decide) (nI (aN A)) hRk.2.1 ?_
                    refine r_icmpN_ge hX dX10_group_154 (by omega) (by omega) (fun c26 => absurd c26 (by omega)) (fun c26 => ?_)
                    refine r_iload hX dX10_group_157 rfl ?_
                    refine r_ifB_eq hX dX10_group_159 (fun c27 => ?_) (fun c27 => ?_)
                    · skip
                      refine r_iload hX dX10_group_200 rfl ?_
                      refine r_ifB_eq hX dX10_group_202 (fun c28 => ?_) (fun c28 => absurd c28 (by rw [c27]; decide))
                      refine r_iload_n hX dX10_group_210 rfl ?_
                      refine r_istore_n hX [(0, .ref (L.1 0)), (1, .int (nI q)), (2, .int (nI y)), (3, .int (nI (bst (fun a => frI A q y a (aN A)) (aN A) i))), (4, .int (nI (1 + i))), (5, .int (bI (allB (gokB (fun a => frI A q y a (aN A)) (1 + i)) d))), (6, .int (nI d))] dX10_group_211 hN3 rfl ?_
                      refine r_iincN (n := 1) hX [(0, .ref (L.1 0)), (1, .int (nI q)), (2, .int (nI y)), (3, .int (nI (bst (fun a => frI A q y a (aN A)) (aN A) i))), (4, .int (nI (1 + i + 1))), (5, .int (bI (allB (gokB (fun a => frI A q y a (aN A)) (1 + i)) d))), (6, .int (nI d))] dX10_group_212 rfl hN4 rfl ?_
                      refine r_goto hX dX10_group_215 ?_
                      have q29 : bst (fun a => frI A q y a (aN A)) (aN A) (i + 1) = bst (fun a => frI A q y a (aN A)) (aN A) i := (bst_n2 (allB_le c28 (by omega)))
                      have q30 : 1 + (i + 1) = 1 + i + 1 := (by omega)
                      exact At.less (At.to (ls := [(0, .ref (L.1 0)), (1, .int (nI q)), (2, .int (nI y)), (3, .int (nI (bst (fun a => frI A q y a (aN A)) (aN A) i))), (4, .int (nI (1 + i + 1)))]) ih7 (by rw [q29, q30]) rfl rfl) (by simp)
                    · skip
                      refine r_iload hX dX10_group_162 rfl ?_
                      refine r_iload hX dX10_group_164 rfl ?_
                      refine r_ishr hX dX10_group_166 ?_
                      refine r_iconst hX (nI 1) dX10_group_167 rfl ?_
                      refine r_iand hX dX10_group_168 ?_
                      refine r_if_eq hX dX10_group_169 (fun c31 => ?_) (fun c31 => ?_)
                      · skip
                        refine r_iconst hX (nI 1) dX10_group_187 rfl ?_
                        refine r_goto hX dX10_group_188 ?_
                        refine r_istore hX [(0, .ref (L.1 0)), (1, .int (nI q)), (2, .int (nI y)), (3, .int (nI (bst (fun a => frI A q y a (aN A)) (aN A) i))), (4, .int (nI (1 + i))), (5, .int (nI 1)), (6, .int (nI d))] dX10_group_192 hN5 rfl ?_
                        refine r_iincN (n := 1) hX [(0, .ref (L.1 0)), (1, .int (nI q)), (2, .int (nI y)), (3, .int (nI (bst (fun a => frI A q y a (aN A)) (aN A) i))), (4, .int (nI (1 + i))), (5, .int (nI 1)), (6, .int (nI (d + 1)))] dX10_group_194 rfl hN6 rfl ?_
                        refine r_goto hX dX10_group_197 ?_
                        have q32 : bI (allB (gokB (fun a => frI A q y a (aN A)) (1 + i)) (d + 1)) = nI 1 := (bI_t (allB_s c27 (by unfold gokB; rw [decide_eq_true c31]; rfl)))
                        exact At.to ih25 (by rw [q32]) rfl rfl
                      · skip
                        refine r_iload hX dX10_group_172 rfl ?_
                        refine r_aload_n hX dX10_group_174 rfl ?_
                        refine r_getR hX dX10_group_175 fl_X10_28 (hM.1 0 (9, 0) rfl) rfl (hM.2 15 7 rfl) ?_
                        refine r_iload hX dX10_group_178 rfl ?_
                        refine r_aldN hX dX10_group_180 (hM.1 7 (10, 12) rfl) (by decide) (by omega) (frI A q y d (aN A)) (hfr d (by omega)) ?_
                        refine r_iconst hX (-1) dX10_group_181 rfl ?_
                        refine r_ixor hX dX10_group_182 ?_
                        refine r_iand hX dX10_group_183 ?_
                        refine r_if_ne hX dX10_group_184 (fun c33 => ?_) (fun c33 => ?_)
                        · skip
                          refine r_iconst hX (nI 0) dX10_group_191 rfl ?_
                          refine r_istore hX [(0, .ref (L.1 0)), (1, .int (nI q)), (2, .int (nI y)), (3, .int (nI (bst (fun a => frI A q y a (aN A)) (aN A) i))), (4, .int (nI (1 + i))), (5, .int (nI 0)), (6, .int (nI d))] dX10_group_192 hN5 rfl ?_
                          refine r_iincN (n := 1) hX [(0, .ref (L.1 0)), (1, .int (nI q)), (2, .int (nI y)), (3, .int (nI (bst (fun a => frI A q y a (aN A)) (aN A) i))), (4, .int (nI (1 + i))), (5, .int (nI 0)), (6, .int (nI (d + 1)))] dX10_group_194 rfl hN6 rfl ?_
                          refine r_goto hX dX10_group_197 ?_
                          have q34 : bI (allB (gokB (fun a => frI A q y a (aN A)) (1 + i)) (d + 1)) = nI 0 := (bI_f (by rw [allB, c27, Bool.true_and]; unfold gokB; rw [decide_eq_false c31, decide_eq_false (p := nI (1 + i) &&& (frI A q y d (aN A) ^^^ (-1)) = 0) c33]; rfl))
                          exact At.to ih25 (by rw [q34]) rfl rfl
                        · skip
                          refine r_iconst hX (nI 1) dX10_group_187 rfl ?_
                          refine r_goto hX dX10_group_188 ?_
                          refine r_istore hX [(0, .ref (L.1 0)), (1, .int (nI q)), (2, .int (nI y)), (3, .int (nI (bst (fun a => frI A q y a (aN A)) (aN A) i))), (4, .int (nI (1 + i))), (5, .int (nI 1)), (6, .int (nI d))] dX10_group_192 hN5 rfl ?_
                          refine r_iincN (n := 1) hX [(0, .ref (L.1 0)), (1, .int (nI q)), (2, .int (nI y)), (3, .int (nI (bst (fun a => frI A q y a (aN A)) (aN A) i))), (4, .int (nI (1 + i))), (5, .int (nI 1)), (6, .int (nI (d + 1)))] dX10_group_194 rfl hN6 rfl ?_
                          refine r_goto hX dX10_group_197 ?_
                          have q35 : bI (allB (gokB (fun a => frI A q y a (aN A)) (1 + i)) (d + 1)) = nI 1 := (bI_t (allB_s c27 (by unfold gokB; rw [decide_eq_true (p := nI (1 + i) &&& (frI A q y d (aN A) ^^^ (-1)) = 0) c33, Bool.or_true])))
                          exact At.to ih25 (by rw [q35]) rfl rfl
                exact At.to (P18 0 (Nat.zero_le _)) rfl rfl rfl
          exact At.to (P5 0 (Nat.zero_le _)) rfl rfl rfl
        · skip
          intro a ha ih36 σk hSk hfr
          have hRk := hSk.rm hR
          refine r_iload_n hX dX10_group_26 rfl ?_
          refine r_aload_n hX dX10_group_27 rfl ?_
          refine r_getR hX dX10_group_28 fl_X10_9 (hM.1 0 (9, 0) rfl) rfl (hM.2 0 1 rfl) ?_
          refine r_iconst hX (nI 1) dX10_group_31 rfl ?_
          refine r_aldN hX dX10_group_32 (hM.1 1 (10, 1605) rfl) (by decide) (by decide) (nI (aN A)) hRk.2.1 ?_
          refine r_icmpN_ge hX dX10_group_33 (by omega) (by omega) (fun c37 => absurd c37 (by omega)) (fun c37 => ?_)
          refine r_aload_n hX dX10_group_36 rfl ?_
          refine r_getR hX dX10_group_37 fl_X10_28 (hM.1 0 (9, 0) rfl) rfl (hM.2 15 7 rfl) ?_
          refine r_iload_n hX dX10_group_40 rfl ?_
          refine r_iconst hX (nI 1) dX10_group_41 rfl ?_
          refine r_iload_n hX dX10_group_42 rfl ?_
          refine r_ishl hX dX10_group_43 ?_
          refine r_astN hX dX10_group_44 (hM.1 7 (10, 12) rfl) (by decide) (by omega) ?_
          refine r_iconst hX (nI 0) dX10_group_45 rfl ?_
          refine r_istore hX [(0, .ref (L.1 0)), (1, .int (nI q)), (2, .int (nI y)), (3, .int (nI a)), (4, .int (nI 0))] dX10_group_46 hN4 rfl ?_
          have P38 : ∀ j, j ≤ aN A → ∀ (σb : Me) (hSb : Sm σ σb) (hfa : σb 7 a = frI A q y a j) (hfb : ∀ b, b < a → σb 7 b = frI A q y b (aN A)), At X L σb 0 0 [(0, .ref (L.1 0)), (1, .int (nI q)), (2, .int (nI y)), (3, .int (nI a)), (4, .int (nI j))] 48 [] := by
            refine loopUp (aN A) ?_ ?_
            · skip
              intro σb hSb hfa hfb
              have hRb := hSb.rm hR
              refine r_iload hX dX10_group_48 rfl ?_
              refine r_aload_n hX dX10_group_50 rfl ?_
              refine r_getR hX dX10_group_51 fl_X10_9 (hM.1 0 (9, 0) rfl) rfl (hM.2 0 1 rfl) ?_
              refine r_iconst hX (nI 1) dX10_group_54 rfl ?_
              refine r_aldN hX dX10_group_55 (hM.1 1 (10, 1605) rfl) (by decide) (by decide) (nI (aN A)) hRb.2.1 ?_
              refine r_icmpN_ge hX dX10_group_56 (by omega) (by omega) (fun c39 => ?_) (fun c39 => absurd c39 (by omega))
              refine r_iincN (n := 1) hX [(0, .ref (L.1 0)), (1, .int (nI q)), (2, .int (nI y)), (3, .int (nI (a + 1))), (4, .int (nI (aN A)))] dX10_group_100 rfl hN3 rfl ?_
              refine r_goto hX dX10_group_103 ?_
              exact At.less (At.to (ls := [(0, .ref (L.1 0)), (1, .int (nI q)), (2, .int (nI y)), (3, .int (nI (a + 1)))]) (ih36 σb hSb (lt_s hfb hfa)) rfl rfl rfl) (by simp)
            · skip
              intro j hj ih40 σb hSb hfa hfb
              have hRb := hSb.rm hR
              have hal := alN_le hV a j y
              refine r_iload hX dX10_group_48 rfl ?_
              refine r_aload_n hX dX10_group_50 rfl ?_
              refine r_getR hX dX10_group_51 fl_X10_9 (hM.1 0 (9, 0) rfl) rfl (hM.2 0 1 rfl) ?_
              refine r_iconst hX (nI 1) dX10_group_54 rfl ?_
              refine r_aldN hX dX10_group_55 (hM.1 1 (10, 1605) rfl) (by decide) (by decide) (nI (aN A)) hRb.2.1 ?_
              refine r_icmpN_ge hX dX10_group_56 (by omega) (by omega) (fun c41 => absurd c41 (by omega)) (fun c41 => ?_)
              refine r_aload_n hX dX10_group_59 rfl ?_
              refine r_getR hX dX10_group_60 fl_X10_28 (hM.1 0 (9, 0) rfl) rfl (hM.2 15 7 rfl) ?_
              refine r_iload_n hX dX10_group_63 rfl ?_
              refine r_dup2 hX dX10_group_64 rfl rfl ?_
              refine r_aldN hX dX10_group_65 (hM.1 7 (10, 12) rfl) (by decide) (by omega) (frI A q y a j) hfa ?_
              refine r_iload_n hX dX10_group_66 rfl ?_
              refine r_iload hX dX10_group_67 rfl ?_
              refine r_icmpN_eq hX dX10_group_69 (by omega) (by omega) (fun c42 => ?_) (fun c42 => ?_)
              · skip
                refine r_iconst hX (nI 0) dX10_group_91 rfl ?_
                refine r_ior hX dX10_group_92 ?_
                refine r_astN hX dX10_group_93 (hM.1 7 (10, 12) rfl) (by decide) (by omega) ?_
                refine r_iincN (n := 1) hX [(0, .ref (L.1 0)), (1, .int (nI q)), (2, .int (nI y)), (3, .int (nI a)), (4, .int (nI (j + 1)))] dX10_group_94 rfl hN4 rfl ?_
                refine r_goto hX dX10_group_97 ?_
                exact At.to (ih40 _ (Sm.up hSb rfl) (by rw [up_s, frI, (if_neg (fun q => q.1 c42))]) (fun b h => by rw [up_n (by omega)]; exact hfb b h)) rfl rfl rfl
              · skip
                refine r_aload_n hX dX10_group_72 rfl ?_
                refine r_iload_n hX dX10_group_73 rfl ?_
                refine r_iload hX dX10_group_74 rfl ?_
                refine r_iload_n hX dX10_group_76 rfl ?_
                refine r_callVF (As := [.int (nI a), .int (nI j), .int (nI y)]) (rest := [.int (frI A q y a j), .int (nI a), .ref (L.1 7)]) hX (c_X10_alikes hM σb A hRb hV a j y (by omega) (by omega) (by omega)) dX10_group_77 cb_X10_203 (hM.1 0 (9, 0) rfl) rfl rfl ⟨Nat.le_of_ble_eq_true rfl, Nat.le_of_ble_eq_true rfl⟩ ⟨Nat.le_of_ble_eq_true rfl, Nat.le_of_ble_eq_true rfl⟩ (Nat.le_of_ble_eq_true rfl) ?_
                refine r_iload_n hX dX10_group_80 rfl ?_
                refine r_icmpN_lt hX dX10_group_81 (by have := alN_le hV a j y; omega) (by have := alN_le hV a j y; omega) (fun c43 => ?_) (fun c43 => ?_)
                · skip
                  refine r_iconst hX (nI 0) dX10_group_91 rfl ?_
                  refine r_ior hX dX10_group_92 ?_
                  refine r_astN hX dX10_group_93 (hM.1 7 (10, 12) rfl) (by decide) (by omega) ?_
                  refine r_iincN (n := 1) hX [(0, .ref (L.1 0)), (1, .int (nI q)), (2, .int (nI y)), (3, .int (nI a)), (4, .int (nI (j + 1)))] dX10_group_94 rfl hN4 rfl ?_
                  refine r_goto hX dX10_group_97 ?_
                  exact At.to (ih40 _ (Sm.up hSb rfl) (by rw [up_s, frI, (if_neg (fun q => absurd q.2 (by omega)))]) (fun b h => by rw [up_n (by omega)]; exact hfb b h)) rfl rfl rfl
                · skip
                  refine r_iconst hX (nI 1) dX10_group_84 rfl ?_
                  refine r_iload hX dX10_group_85 rfl ?_
                  refine r_ishl hX dX10_group_87 ?_
                  refine r_goto hX dX10_group_88 ?_
                  refine r_ior hX dX10_group_92 ?_
                  refine r_astN hX dX10_group_93 (hM.1 7 (10, 12) rfl) (by decide) (by omega) ?_
                  refine r_iincN (n := 1) hX [(0, .ref (L.1 0)), (1, .int (nI q)), (2, .int (nI y)), (3, .int (nI a)), (4, .int (nI (j + 1)))] dX10_group_94 rfl hN4 rfl ?_
                  refine r_goto hX dX10_group_97 ?_
                  exact At.to (ih40 _ (Sm.up hSb rfl) (by rw [up_s, frI, (if_pos ⟨c42, c43⟩)]) (fun b h => by rw [up_n (by omega)]; exact hfb b h)) rfl rfl rfl
          exact At.to (P38 0 (Nat.zero_le _) _ (Sm.up hSk rfl) up_s (fun b h => by rw [up_n (by omega)]; exact hfr b h)) rfl rfl rfl
      exact At.to (P3 0 (Nat.zero_le _) σ (Sm.rf σ) (fun b h => absurd h (Nat.not_lt_zero b))) rfl rfl rfl
    · skip
      refine r_ldc hX dX10_group_21 ko_X10_72 ?_
      exact r_ireturn hX hQ dX10_group_23 ⟨Nat.le_of_ble_eq_true rfl, Nat.le_of_ble_eq_true rfl⟩ (PI.mk ⟨by rw [oGroup, if_neg (fun e => by have e := e.2; rw [c2] at e; cases e)], (Sm.rf σ)⟩)
