set_option maxHeartbeats 4000000 in
set_option maxRecDepth 100000 in
theorem c_X0_fillNear {l : Launch} {D : Ds} {L : La}  (hG : GAt L) (b : Nat) (hC : RAt L b) (σ : Me) (A : Al) (h0 : R0 σ b A) (hW : RW σ b A) (hTx : RX' L σ b A) (hV : Va A) (q y : Nat) (hq : q < 2 ^ 31) (hy : y < 2 ^ 31) : Ct l yX0_fillNear cX0_fillNear 6 none { frames := 3, cells := 0, slots := 0, locals := 70 } D L σ [.ref (L.1 101), .ref (L.1 (b + 0)), .int (nI q), .int (nI y)] (PV L (fun σ2 => (∀ a, a < aN A → σ2 102 a = frI A q y a (aN A)) ∧ Cs σ σ2)) := by
  refine Ct.of (by decide) (Nat.le_of_ble_eq_true rfl) ?_
  intro X hl hD hnl hX0 hQ
  have hX : Ok X cX0_fillNear RX0 "fillNear" { frames := 3, cells := 0, slots := 0, locals := 70 } none := hX0
  have hN4 : 4 < xn X := by rw [hnl]; decide
  have hN5 : 5 < xn X := by rw [hnl]; decide
  have hbb := hC.2.2
  have hW24 := hV.2.2.1
  have hT6 := hV.1
  have hN12 := hV.2.1
  have hX14 := hV.2.2.2.1
  show At X L σ 0 0 [(0, .ref (L.1 101)), (1, .ref (L.1 (b + 0))), (2, .int (nI q)), (3, .int (nI y))] 0 []
  refine r_iconst hX (nI 0) dX0_fillNear_0 rfl ?_
  refine r_istore hX [(0, .ref (L.1 101)), (1, .ref (L.1 (b + 0))), (2, .int (nI q)), (3, .int (nI y)), (4, .int (nI 0))] dX0_fillNear_1 hN4 rfl ?_
  have P1 : ∀ a, a ≤ aN A → ∀ (σk : Me) (hSk : Cs σ σk) (hfr : ∀ x, x < a → σk 102 x = frI A q y x (aN A)), At X L σk 0 0 [(0, .ref (L.1 101)), (1, .ref (L.1 (b + 0))), (2, .int (nI q)), (3, .int (nI y)), (4, .int (nI a))] 3 [] := by
    refine loopUp (aN A) ?_ ?_
    · skip
      intro σk hSk hfr
      have g0 := h0.cs hC hSk
      have gW := hW.cs hC hSk
      have gX := hTx.cs hSk
      refine r_iload hX dX0_fillNear_3 rfl ?_
      refine r_aload_n hX dX0_fillNear_5 rfl ?_
      refine r_getIV hX dX0_fillNear_6 fl_X0_19 (hC.1 0 (2, 0) rfl) rfl (nI (aN A)) g0.2.1 ?_
      refine r_icmpN_ge hX dX0_fillNear_9 (by omega) (by omega) (fun c2 => ?_) (fun c2 => absurd c2 (by omega))
      exact r_return hX hQ dX0_fillNear_84 ⟨Nat.le_of_ble_eq_true rfl, Nat.le_of_ble_eq_true rfl⟩ (PV.mk ⟨hfr, hSk⟩)
    · skip
      intro a ha ih3 σk hSk hfr
      have g0 := h0.cs hC hSk
      have gW := hW.cs hC hSk
      have gX := hTx.cs hSk
      refine r_iload hX dX0_fillNear_3 rfl ?_
      refine r_aload_n hX dX0_fillNear_5 rfl ?_
      refine r_getIV hX dX0_fillNear_6 fl_X0_19 (hC.1 0 (2, 0) rfl) rfl (nI (aN A)) g0.2.1 ?_
      refine r_icmpN_ge hX dX0_fillNear_9 (by omega) (by omega) (fun c4 => absurd c4 (by omega)) (fun c4 => ?_)
      refine r_aload_n hX dX0_fillNear_12 rfl ?_
      refine r_getR hX dX0_fillNear_13 fl_X0_9 hG.1 rfl hG.2.2 ?_
      refine r_iload hX dX0_fillNear_16 rfl ?_
      refine r_iconst hX (nI 1) dX0_fillNear_18 rfl ?_
      refine r_iload hX dX0_fillNear_19 rfl ?_
      refine r_ishl hX dX0_fillNear_21 ?_
      refine r_astN hX dX0_fillNear_22 hG.2.1 (by decide) (by omega) ?_
      refine r_iconst hX (nI 0) dX0_fillNear_23 rfl ?_
      refine r_istore hX [(0, .ref (L.1 101)), (1, .ref (L.1 (b + 0))), (2, .int (nI q)), (3, .int (nI y)), (4, .int (nI a)), (5, .int (nI 0))] dX0_fillNear_24 hN5 rfl ?_
      have P5 : ∀ j, j ≤ aN A → ∀ (σj : Me) (hSj : Cs σ σj) (hfa : σj 102 a = frI A q y a j) (hfb : ∀ x, x < a → σj 102 x = frI A q y x (aN A)), At X L σj 0 0 [(0, .ref (L.1 101)), (1, .ref (L.1 (b + 0))), (2, .int (nI q)), (3, .int (nI y)), (4, .int (nI a)), (5, .int (nI j))] 26 [] := by
        refine loopUp (aN A) ?_ ?_
        · skip
          intro σj hSj hfa hfb
          have g0j := h0.cs hC hSj
          have gWj := hW.cs hC hSj
          have gXj := hTx.cs hSj
          refine r_iload hX dX0_fillNear_26 rfl ?_
          refine r_aload_n hX dX0_fillNear_28 rfl ?_
          refine r_getIV hX dX0_fillNear_29 fl_X0_19 (hC.1 0 (2, 0) rfl) rfl (nI (aN A)) g0j.2.1 ?_
          refine r_icmpN_ge hX dX0_fillNear_32 (by omega) (by omega) (fun c6 => ?_) (fun c6 => absurd c6 (by omega))
          refine r_iincN (n := 1) hX [(0, .ref (L.1 101)), (1, .ref (L.1 (b + 0))), (2, .int (nI q)), (3, .int (nI y)), (4, .int (nI (a + 1))), (5, .int (nI (aN A)))] dX0_fillNear_78 rfl hN4 rfl ?_
          refine r_goto hX dX0_fillNear_81 ?_
          exact At.less (At.to (ls := [(0, .ref (L.1 101)), (1, .ref (L.1 (b + 0))), (2, .int (nI q)), (3, .int (nI y)), (4, .int (nI (a + 1)))]) (ih3 σj hSj (lt_s hfb hfa)) rfl rfl rfl) (by simp)
        · skip
          intro j hj ih7 σj hSj hfa hfb
          have g0j := h0.cs hC hSj
          have gWj := hW.cs hC hSj
          have gXj := hTx.cs hSj
          refine r_iload hX dX0_fillNear_26 rfl ?_
          refine r_aload_n hX dX0_fillNear_28 rfl ?_
          refine r_getIV hX dX0_fillNear_29 fl_X0_19 (hC.1 0 (2, 0) rfl) rfl (nI (aN A)) g0j.2.1 ?_
          refine r_icmpN_ge hX dX0_fillNear_32 (by omega) (by omega) (fun c8 => absurd c8 (by omega)) (fun c8 => ?_)
          refine r_iload hX dX0_fillNear_35 rfl ?_
          refine r_iload hX dX0_fillNear_37 rfl ?_
          refine r_icmpN_eq hX dX0_fillNear_39 (by omega) (by omega) (fun c9 => ?_) (fun c9 => ?_)
          · skip
            refine r_iincN (n := 1) hX [(0, .ref (L.1 101)), (1, .ref (L.1 (b + 0))), (2, .int (nI q)), (3, .int (nI y)), (4, .int (nI a)), (5, .int (nI (j + 1)))] dX0_fillNear_72 rfl hN5 rfl ?_
            refine r_goto hX dX0_fillNear_75 ?_
            exact At.to (ih7 σj hSj (by rw [frI, if_neg (fun z => z.1 c9.symm), or_0]; exact hfa) hfb) rfl rfl rfl
          · skip
            refine r_aload_n hX dX0_fillNear_42 rfl ?_
            refine r_getR hX dX0_fillNear_43 fl_X0_35 (hC.1 0 (2, 0) rfl) rfl (hC.2.1 0 5 4 rfl) ?_
            refine r_iload hX dX0_fillNear_46 rfl ?_
            refine r_iload hX dX0_fillNear_48 rfl ?_
            refine r_iload_n hX dX0_fillNear_50 rfl ?_
            refine r_callVF (As := [.int (nI a), .int (nI j), .int (nI y)]) (rest := []) hX (c_X8_timesAlike b hC σj A gWj hV a j y (by omega) (by omega) (by omega)) dX0_fillNear_51 cb_X0_39 (hC.1 4 (7, 0) rfl) rfl rfl ⟨Nat.le_of_ble_eq_true rfl, Nat.le_of_ble_eq_true rfl⟩ ⟨Nat.le_of_ble_eq_true rfl, Nat.le_of_ble_eq_true rfl⟩ (Nat.le_of_ble_eq_true rfl) ?_
            refine r_iload_n hX dX0_fillNear_54 rfl ?_
            refine r_icmpN_lt hX dX0_fillNear_55 (by first | omega | (have := alN_le hV a j y; omega)) (by first | omega | (have := alN_le hV a j y; omega)) (fun c10 => ?_) (fun c10 => ?_)
            · skip
              refine r_iincN (n := 1) hX [(0, .ref (L.1 101)), (1, .ref (L.1 (b + 0))), (2, .int (nI q)), (3, .int (nI y)), (4, .int (nI a)), (5, .int (nI (j + 1)))] dX0_fillNear_72 rfl hN5 rfl ?_
              refine r_goto hX dX0_fillNear_75 ?_
              exact At.to (ih7 σj hSj (by rw [frI, if_neg (fun z => absurd z.2 (by omega)), or_0]; exact hfa) hfb) rfl rfl rfl
            · skip
              refine r_aload_n hX dX0_fillNear_58 rfl ?_
              refine r_getR hX dX0_fillNear_59 fl_X0_9 hG.1 rfl hG.2.2 ?_
              refine r_iload hX dX0_fillNear_62 rfl ?_
              refine r_dup2 hX dX0_fillNear_64 rfl rfl ?_
              refine r_aldN hX dX0_fillNear_65 hG.2.1 (by decide) (by omega) (frI A q y a j) hfa ?_
              refine r_iconst hX (nI 1) dX0_fillNear_66 rfl ?_
              refine r_iload hX dX0_fillNear_67 rfl ?_
              refine r_ishl hX dX0_fillNear_69 ?_
              refine r_ior hX dX0_fillNear_70 ?_
              refine r_astN hX dX0_fillNear_71 hG.2.1 (by decide) (by omega) ?_
              refine r_iincN (n := 1) hX [(0, .ref (L.1 101)), (1, .ref (L.1 (b + 0))), (2, .int (nI q)), (3, .int (nI y)), (4, .int (nI a)), (5, .int (nI (j + 1)))] dX0_fillNear_72 rfl hN5 rfl ?_
              refine r_goto hX dX0_fillNear_75 ?_
              exact At.to (ih7 _ (Cs.up hSj (by unfold sc; omega)) (by rw [up_s, frI, if_pos ⟨fun e => c9 e.symm, c10⟩]) (fun x hx => by rw [up_n (by omega)]; exact hfb x hx)) rfl rfl rfl
      exact At.to (P5 0 (Nat.zero_le _) _ (Cs.up hSk (by unfold sc; omega)) up_s (fun x h => by rw [up_n (by omega)]; exact hfr x h)) rfl rfl rfl
  exact At.to (P1 0 (Nat.zero_le _) σ (Cs.rf σ) (fun x h => absurd h (Nat.not_lt_zero x))) rfl rfl rfl

set_option maxHeartbeats 4000000 in
set_option maxRecDepth 100000 in
theorem c_X0_isGroup {l : Launch} {D : Ds} {L : La}  (hG : GAt L) (σ : Me) (F : Nat → Int32) (s n : Nat) (hs : s < 2 ^ 31) (hn : n ≤ 12) (hF : ∀ a, a < n → σ 102 a = F a) : Ct l yX0_isGroup cX0_isGroup 4 (some .boolean) { frames := 0, cells := 0, slots := 0, locals := 0 } D L σ [.ref (L.1 101), .int (nI s), .int (nI n)] (PF L σ (bI (allB (gokB F s) n))) := by
  refine Ct.of (by decide) (Nat.le_of_ble_eq_true rfl) ?_
  intro X hl hD hnl hX0 hQ
  have hX : Ok X cX0_isGroup RX0 "isGroup" { frames := 0, cells := 0, slots := 0, locals := 0 } (some .boolean) := hX0
  have hN3 : 3 < xn X := by rw [hnl]; decide
  show At X L σ 0 0 [(0, .ref (L.1 101)), (1, .int (nI s)), (2, .int (nI n))] 0 []
  refine r_iconst hX (nI 0) dX0_isGroup_0 rfl ?_
  refine r_istore_n hX [(0, .ref (L.1 101)), (1, .int (nI s)), (2, .int (nI n)), (3, .int (nI 0))] dX0_isGroup_1 hN3 rfl ?_
  have P1 : ∀ i, i ≤ n → ∀ (hall : allB (gokB F s) i = true), At X L σ 0 0 [(0, .ref (L.1 101)), (1, .int (nI s)), (2, .int (nI n)), (3, .int (nI i))] 2 [] := by
    refine loopUp n ?_ ?_
    · skip
      intro hall
      refine r_iload_n hX dX0_isGroup_2 rfl ?_
      refine r_iload_n hX dX0_isGroup_3 rfl ?_
      refine r_icmpN_ge hX dX0_isGroup_4 (by omega) (by omega) (fun c2 => ?_) (fun c2 => absurd c2 (by omega))
      refine r_iconst hX (nI 1) dX0_isGroup_37 rfl ?_
      exact r_zreturn hX hQ dX0_isGroup_38 ⟨Nat.le_of_ble_eq_true rfl, Nat.le_of_ble_eq_true rfl⟩ rfl (PF.mk (bI_t hall).symm)
    · skip
      intro i hi ih3 hall
      refine r_iload_n hX dX0_isGroup_2 rfl ?_
      refine r_iload_n hX dX0_isGroup_3 rfl ?_
      refine r_icmpN_ge hX dX0_isGroup_4 (by omega) (by omega) (fun c4 => absurd c4 (by omega)) (fun c4 => ?_)
      refine r_iload_n hX dX0_isGroup_7 rfl ?_
      refine r_iload_n hX dX0_isGroup_8 rfl ?_
      refine r_ishr hX dX0_isGroup_9 ?_
      refine r_iconst hX (nI 1) dX0_isGroup_10 rfl ?_
      refine r_iand hX dX0_isGroup_11 ?_
      refine r_iconst hX (nI 1) dX0_isGroup_12 rfl ?_
      refine r_icmp_ne hX dX0_isGroup_13 (fun c5 => ?_) (fun c5 => ?_)
      · skip
        refine r_iincN (n := 1) hX [(0, .ref (L.1 101)), (1, .int (nI s)), (2, .int (nI n)), (3, .int (nI (i + 1)))] dX0_isGroup_31 rfl hN3 rfl ?_
        refine r_goto hX dX0_isGroup_34 ?_
        exact At.to (ih3 (allB_s hall (gok_1 c5))) rfl rfl rfl
      · skip
        refine r_iload_n hX dX0_isGroup_16 rfl ?_
        refine r_aload_n hX dX0_isGroup_17 rfl ?_
        refine r_getR hX dX0_isGroup_18 fl_X0_9 hG.1 rfl hG.2.2 ?_
        refine r_iload_n hX dX0_isGroup_21 rfl ?_
        refine r_aldN hX dX0_isGroup_22 hG.2.1 (by decide) (by omega) (F i) (hF i (by omega)) ?_
        refine r_iconst hX (-1) dX0_isGroup_23 rfl ?_
        refine r_ixor hX dX0_isGroup_24 ?_
        refine r_iand hX dX0_isGroup_25 ?_
        refine r_if_eq hX dX0_isGroup_26 (fun c6 => ?_) (fun c6 => ?_)
        · skip
          refine r_iincN (n := 1) hX [(0, .ref (L.1 101)), (1, .int (nI s)), (2, .int (nI n)), (3, .int (nI (i + 1)))] dX0_isGroup_31 rfl hN3 rfl ?_
          refine r_goto hX dX0_isGroup_34 ?_
          exact At.to (ih3 (allB_s hall (gok_2 c6))) rfl rfl rfl
        · skip
          refine r_iconst hX (nI 0) dX0_isGroup_29 rfl ?_
          exact r_zreturn hX hQ dX0_isGroup_30 ⟨Nat.le_of_ble_eq_true rfl, Nat.le_of_ble_eq_true rfl⟩ rfl (PF.mk (bI_f (allB_le (a := i + 1) (by rw [allB, gok_3 c5 c6, Bool.and_false]) (by omega))).symm)
  exact At.to (P1 0 (Nat.zero_le _) rfl) rfl rfl rfl

set_option maxHeartbeats 4000000 in
set_option maxRecDepth 100000 in
theorem c_X0_greatest {l : Launch} {D : Ds} {L : La}  (hG : GAt L) (b : Nat) (hC : RAt L b) (σ : Me) (A : Al) (h0 : R0 σ b A) (hW : RW σ b A) (hTx : RX' L σ b A) (hV : Va A) (q y : Nat) (hq : q < 2 ^ 31) (hy : y < 2 ^ 31) : Ct l yX0_greatest cX0_greatest 6 (some .int) { frames := 4, cells := 0, slots := 0, locals := 95 } D L σ [.ref (L.1 101), .ref (L.1 (b + 0)), .int (nI q), .int (nI y)] (PI L (fun r σ2 => r = nI (grp A q y) ∧ Cs σ σ2)) := by
  refine Ct.of (by decide) (Nat.le_of_ble_eq_true rfl) ?_
  intro X hl hD hnl hX0 hQ
  have hX : Ok X cX0_greatest RX0 "greatest" { frames := 4, cells := 0, slots := 0, locals := 95 } (some .int) := hX0
  have hN4 : 4 < xn X := by rw [hnl]; decide
  have hN5 : 5 < xn X := by rw [hnl]; decide
  have hbb := hC.2.2
  have hW24 := hV.2.2.1
  have hT6 := hV.1
  have hN12 := hV.2.1
  have hX14 := hV.2.2.2.1
  have h2n := two_le hN12
  have h2p := two_pos (aN A)
  show At X L σ 0 0 [(0, .ref (L.1 101)), (1, .ref (L.1 (b + 0))), (2, .int (nI q)), (3, .int (nI y))] 0 []
  refine r_aload_n hX dX0_greatest_0 rfl ?_
  refine r_aload_n hX dX0_greatest_1 rfl ?_
  refine r_iload_n hX dX0_greatest_2 rfl ?_
  refine r_iload_n hX dX0_greatest_3 rfl ?_
  refine r_callVV (As := [.ref (L.1 (b + 0)), .int (nI q), .int (nI y)]) (rest := []) hX (c_X0_fillNear hG b hC σ A h0 hW hTx hV q y (by omega) (by omega)) dX0_greatest_4 cb_X0_15 hG.1 rfl rfl ⟨Nat.le_of_ble_eq_true rfl, Nat.le_of_ble_eq_true rfl⟩ ⟨Nat.le_of_ble_eq_true rfl, Nat.le_of_ble_eq_true rfl⟩ (Nat.le_of_ble_eq_true rfl) (fun σ1 h2 => ?_)
  obtain ⟨hP3, hS4⟩ := h2
  have g05 := R0.cs h0 hC hS4
  have gW6 := RW.cs hW hC hS4
  have gX7 := RX'.cs hTx hS4
  refine r_iconst hX (nI 0) dX0_greatest_7 rfl ?_
  refine r_istore hX [(0, .ref (L.1 101)), (1, .ref (L.1 (b + 0))), (2, .int (nI q)), (3, .int (nI y)), (4, .int (nI 0))] dX0_greatest_8 hN4 rfl ?_
  refine r_iconst hX (nI 1) dX0_greatest_10 rfl ?_
  refine r_istore hX [(0, .ref (L.1 101)), (1, .ref (L.1 (b + 0))), (2, .int (nI q)), (3, .int (nI y)), (4, .int (nI 0)), (5, .int (nI 1))] dX0_greatest_11 hN5 rfl ?_
  have P8 : ∀ i, i ≤ 2 ^ aN A - 1 → At X L σ1 0 0 [(0, .ref (L.1 101)), (1, .ref (L.1 (b + 0))), (2, .int (nI q)), (3, .int (nI y)), (4, .int (nI (bst (fun a => frI A q y a (aN A)) (aN A) i))), (5, .int (nI (1 + i)))] 13 [] := by
    refine loopUp (2 ^ aN A - 1) ?_ ?_
    · skip
      have hbl := bst_le (fun a => frI A q y a (aN A)) (aN A) (2 ^ aN A - 1)
      refine r_iload hX dX0_greatest_13 rfl ?_
      refine r_iconst hX (nI 1) dX0_greatest_15 rfl ?_
      refine r_aload_n hX dX0_greatest_16 rfl ?_
      refine r_getIV hX dX0_greatest_17 fl_X0_19 (hC.1 0 (2, 0) rfl) rfl (nI (aN A)) g05.2.1 ?_
      refine r_ishl hX dX0_greatest_20 ?_
      rw [shl1 (aN A) hN12]
      refine r_icmpN_ge hX dX0_greatest_21 (by omega) (by omega) (fun c9 => ?_) (fun c9 => absurd c9 (by omega))
      refine r_iload hX dX0_greatest_60 rfl ?_
      exact r_ireturn hX hQ dX0_greatest_62 ⟨Nat.le_of_ble_eq_true rfl, Nat.le_of_ble_eq_true rfl⟩ (PI.mk ⟨rfl, (Cs.tr (Cs.rf σ) hS4)⟩)
    · skip
      intro i hi ih10
      have hbl := bst_le (fun a => frI A q y a (aN A)) (aN A) i
      have hp1 := pc12_le (1 + i) (by omega)
      have hp2 := pc12_le (bst (fun a => frI A q y a (aN A)) (aN A) i) (by omega)
      refine r_iload hX dX0_greatest_13 rfl ?_
      refine r_iconst hX (nI 1) dX0_greatest_15 rfl ?_
      refine r_aload_n hX dX0_greatest_16 rfl ?_
      refine r_getIV hX dX0_greatest_17 fl_X0_19 (hC.1 0 (2, 0) rfl) rfl (nI (aN A)) g05.2.1 ?_
      refine r_ishl hX dX0_greatest_20 ?_
      rw [shl1 (aN A) hN12]
      refine r_icmpN_ge hX dX0_greatest_21 (by omega) (by omega) (fun c11 => absurd c11 (by omega)) (fun c11 => ?_)
      refine r_iload hX dX0_greatest_24 rfl ?_
      refine r_callSF (As := [.int (nI (1 + i))]) (rest := []) hX (c_J6_bitCount_0f7a4 σ1 (1 + i) (by omega)) dX0_greatest_26 cb_X0_25 rfl rfl ⟨Nat.le_of_ble_eq_true rfl, Nat.le_of_ble_eq_true rfl⟩ ⟨Nat.le_of_ble_eq_true rfl, Nat.le_of_ble_eq_true rfl⟩ (Nat.le_of_ble_eq_true rfl) ?_
      refine r_iload hX dX0_greatest_29 rfl ?_
      refine r_callSF (As := [.int (nI (bst (fun a => frI A q y a (aN A)) (aN A) i))]) (rest := [.int (nI (pc12 (1 + i)))]) hX (c_J6_bitCount_0f7a4 σ1 (bst (fun a => frI A q y a (aN A)) (aN A) i) (by omega)) dX0_greatest_31 cb_X0_25 rfl rfl ⟨Nat.le_of_ble_eq_true rfl, Nat.le_of_ble_eq_true rfl⟩ ⟨Nat.le_of_ble_eq_true rfl, Nat.le_of_ble_eq_true rfl⟩ (Nat.le_of_ble_eq_true rfl) ?_
      refine r_icmpN_le hX dX0_greatest_34 (by omega) (by omega) (fun c12 => ?_) (fun c12 => ?_)
      · skip
        refine r_iincN (n := 1) hX [(0, .ref (L.1 101)), (1, .ref (L.1 (b + 0))), (2, .int (nI q)), (3, .int (nI y)), (4, .int (nI (bst (fun a => frI A q y a (aN A)) (aN A) i))), (5, .int (nI (1 + i + 1)))] dX0_greatest_54 rfl hN5 rfl ?_
        refine r_goto hX dX0_greatest_57 ?_
        have q13 : bst (fun a => frI A q y a (aN A)) (aN A) (i + 1) = bst (fun a => frI A q y a (aN A)) (aN A) i := (bst_n1 c12)
        have q14 : 1 + (i + 1) = 1 + i + 1 := (by omega)
        exact At.to ih10 (by rw [q13, q14]) rfl rfl
      · skip
        refine r_aload_n hX dX0_greatest_37 rfl ?_
        refine r_iload hX dX0_greatest_38 rfl ?_
        refine r_aload_n hX dX0_greatest_40 rfl ?_
        refine r_getIV hX dX0_greatest_41 fl_X0_19 (hC.1 0 (2, 0) rfl) rfl (nI (aN A)) g05.2.1 ?_
        refine r_callVF (As := [.int (nI (1 + i)), .int (nI (aN A))]) (rest := []) hX (c_X0_isGroup hG σ1 (fun a => frI A q y a (aN A)) (1 + i) (aN A) (by omega) (by omega) hP3) dX0_greatest_44 cb_X0_31 hG.1 rfl rfl ⟨Nat.le_of_ble_eq_true rfl, Nat.le_of_ble_eq_true rfl⟩ ⟨Nat.le_of_ble_eq_true rfl, Nat.le_of_ble_eq_true rfl⟩ (Nat.le_of_ble_eq_true rfl) ?_
        refine r_ifB_eq hX dX0_greatest_47 (fun c15 => ?_) (fun c15 => ?_)
        · skip
          refine r_iincN (n := 1) hX [(0, .ref (L.1 101)), (1, .ref (L.1 (b + 0))), (2, .int (nI q)), (3, .int (nI y)), (4, .int (nI (bst (fun a => frI A q y a (aN A)) (aN A) i))), (5, .int (nI (1 + i + 1)))] dX0_greatest_54 rfl hN5 rfl ?_
          refine r_goto hX dX0_greatest_57 ?_
          have q16 : bst (fun a => frI A q y a (aN A)) (aN A) (i + 1) = bst (fun a => frI A q y a (aN A)) (aN A) i := (bst_n2 c15)
          have q17 : 1 + (i + 1) = 1 + i + 1 := (by omega)
          exact At.to ih10 (by rw [q16, q17]) rfl rfl
        · skip
          refine r_iload hX dX0_greatest_50 rfl ?_
          refine r_istore hX [(0, .ref (L.1 101)), (1, .ref (L.1 (b + 0))), (2, .int (nI q)), (3, .int (nI y)), (4, .int (nI (1 + i))), (5, .int (nI (1 + i)))] dX0_greatest_52 hN4 rfl ?_
          refine r_iincN (n := 1) hX [(0, .ref (L.1 101)), (1, .ref (L.1 (b + 0))), (2, .int (nI q)), (3, .int (nI y)), (4, .int (nI (1 + i))), (5, .int (nI (1 + i + 1)))] dX0_greatest_54 rfl hN5 rfl ?_
          refine r_goto hX dX0_greatest_57 ?_
          have q18 : bst (fun a => frI A q y a (aN A)) (aN A) (i + 1) = 1 + i := (bst_y c12 c15)
          have q19 : 1 + (i + 1) = 1 + i + 1 := (by omega)
          exact At.to ih10 (by rw [q18, q19]) rfl rfl
  exact At.to (P8 0 (Nat.zero_le _)) rfl rfl rfl
