set_option maxHeartbeats 4000000 in
set_option maxRecDepth 100000 in
theorem c_X9_thingTold {l : Launch} {D : Ds} {L : La}  (hA : CAt L) (σ : Me) (A : Al) (h0 : R0 σ 200 A) (hW : RW σ 200 A) (hTx : RX' L σ 200 A) (hV : Va A) (th wh : Int32) : Ct l yX9_thingTold cX9_thingTold 3 (some .int) { frames := 5, cells := 0, slots := 0, locals := 123 } D L σ [.ref (L.1 100), .int th, .int wh] (PI L (fun r σ2 => r = oThingTold A th wh ∧ Cs σ σ2)) := by
  refine Ct.of (by decide) (Nat.le_of_ble_eq_true rfl) ?_
  intro X hl hD hnl hX0 hQ
  have hX : Ok X cX9_thingTold RX9 "thingTold" { frames := 5, cells := 0, slots := 0, locals := 123 } (some .int) := hX0
  have hC := hA.2.2
  have hbb := hC.2.2
  have hW24 := hV.2.2.1
  have hT6 := hV.1
  have hN12 := hV.2.1
  have hX14 := hV.2.2.2.1
  show At X L σ 0 0 [(0, .ref (L.1 100)), (1, .int th), (2, .int wh)] 0 []
  refine r_aload_n hX dX9_thingTold_0 rfl ?_
  refine r_iload_n hX dX9_thingTold_1 rfl ?_
  refine r_callVF (As := [.int th]) (rest := []) hX (c_X9_isThing hA σ A h0 hW hTx hV th) dX9_thingTold_2 cb_X9_76 (hA.1 100 (8, 0) rfl) rfl rfl ⟨Nat.le_of_ble_eq_true rfl, Nat.le_of_ble_eq_true rfl⟩ ⟨Nat.le_of_ble_eq_true rfl, Nat.le_of_ble_eq_true rfl⟩ (Nat.le_of_ble_eq_true rfl) ?_
  refine r_ifB_ne hX dX9_thingTold_5 (fun c1 => ?_) (fun c1 => ?_)
  · skip
    obtain ⟨t, ht, rfl⟩ := isB_nat c1 (by omega)
    refine r_iload_n hX dX9_thingTold_11 rfl ?_
    by_cases e2 : wh = nI 0
    · skip
      subst e2
      refine r_tabInN (v := 0) hX 44 dX9_thingTold_12 (by decide) (by decide) (by decide) 32 rfl (by decide) ?_
      refine r_aload_n hX dX9_thingTold_44 rfl ?_
      refine r_getR hX dX9_thingTold_45 fl_X9_10 (hA.1 100 (8, 0) rfl) rfl (hA.2.1 100 0 200 rfl) ?_
      refine r_getR hX dX9_thingTold_48 fl_X9_80 (hC.1 0 (2, 0) rfl) rfl (hC.2.1 0 1 1 rfl) ?_
      refine r_iload_n hX dX9_thingTold_51 rfl ?_
      refine r_aldN hX dX9_thingTold_52 (hC.1 1 (10, 6) rfl) (by decide) (by omega) (nI (aO A t)) (h0.2.2.2.2.1 t (by omega)) ?_
      exact r_ireturn hX hQ dX9_thingTold_53 ⟨Nat.le_of_ble_eq_true rfl, Nat.le_of_ble_eq_true rfl⟩ (PI.mk ⟨by rw [oThingTold, if_pos c1, if_pos rfl, nI_clamp (by omega)], (Cs.rf σ)⟩)
    by_cases e3 : wh = nI 1
    · skip
      subst e3
      refine r_tabInN (v := 1) hX 54 dX9_thingTold_12 (by decide) (by decide) (by decide) 42 rfl (by decide) ?_
      refine r_aload_n hX dX9_thingTold_54 rfl ?_
      refine r_getR hX dX9_thingTold_55 fl_X9_10 (hA.1 100 (8, 0) rfl) rfl (hA.2.1 100 0 200 rfl) ?_
      refine r_getR hX dX9_thingTold_58 fl_X9_83 (hC.1 0 (2, 0) rfl) rfl (hC.2.1 0 2 2 rfl) ?_
      refine r_iload_n hX dX9_thingTold_61 rfl ?_
      refine r_aldN hX dX9_thingTold_62 (hC.1 2 (10, 6) rfl) (by decide) (by omega) (nI (aB A t)) (h0.2.2.2.2.2.1 t (by omega)) ?_
      exact r_ireturn hX hQ dX9_thingTold_63 ⟨Nat.le_of_ble_eq_true rfl, Nat.le_of_ble_eq_true rfl⟩ (PI.mk ⟨by rw [oThingTold, if_pos c1, if_neg (by decide), if_pos rfl, nI_clamp (by omega)], (Cs.rf σ)⟩)
    by_cases e4 : wh = nI 2
    · skip
      subst e4
      refine r_tabInN (v := 2) hX 64 dX9_thingTold_12 (by decide) (by decide) (by decide) 52 rfl (by decide) ?_
      refine r_aload_n hX dX9_thingTold_64 rfl ?_
      refine r_getR hX dX9_thingTold_65 fl_X9_10 (hA.1 100 (8, 0) rfl) rfl (hA.2.1 100 0 200 rfl) ?_
      refine r_getR hX dX9_thingTold_68 fl_X9_86 (hC.1 0 (2, 0) rfl) rfl (hC.2.1 0 5 4 rfl) ?_
      refine r_iload_n hX dX9_thingTold_71 rfl ?_
      refine r_callVF (As := [.int (nI t)]) (rest := []) hX (c_X8_countOf 200 hC σ A hW hV t (by omega)) dX9_thingTold_72 cb_X9_90 (hC.1 4 (7, 0) rfl) rfl rfl ⟨Nat.le_of_ble_eq_true rfl, Nat.le_of_ble_eq_true rfl⟩ ⟨Nat.le_of_ble_eq_true rfl, Nat.le_of_ble_eq_true rfl⟩ (Nat.le_of_ble_eq_true rfl) ?_
      exact r_ireturn hX hQ dX9_thingTold_75 ⟨Nat.le_of_ble_eq_true rfl, Nat.le_of_ble_eq_true rfl⟩ (PI.mk ⟨by rw [oThingTold, if_pos c1, if_neg (by decide), if_neg (by decide), if_pos rfl, nI_clamp (by omega)], (Cs.rf σ)⟩)
    by_cases e5 : wh = nI 3
    · skip
      subst e5
      refine r_tabInN (v := 3) hX 76 dX9_thingTold_12 (by decide) (by decide) (by decide) 64 rfl (by decide) ?_
      refine r_aload_n hX dX9_thingTold_76 rfl ?_
      refine r_getR hX dX9_thingTold_77 fl_X9_10 (hA.1 100 (8, 0) rfl) rfl (hA.2.1 100 0 200 rfl) ?_
      refine r_callVV (As := []) (rest := []) hX (c_X3_rank 200 hC σ A h0 hW hTx hV) dX9_thingTold_80 cb_X9_95 (hC.1 0 (2, 0) rfl) rfl rfl ⟨Nat.le_of_ble_eq_true rfl, Nat.le_of_ble_eq_true rfl⟩ ⟨Nat.le_of_ble_eq_true rfl, Nat.le_of_ble_eq_true rfl⟩ (Nat.le_of_ble_eq_true rfl) (fun σ6 h7 => ?_)
      obtain ⟨hP9, hS8⟩ := h7
      have g010 := R0.cs h0 hC hS8
      have gW11 := RW.cs hW hC hS8
      have gX12 := RX'.cs hTx hS8
      refine r_aload_n hX dX9_thingTold_83 rfl ?_
      refine r_getR hX dX9_thingTold_84 fl_X9_10 (hA.1 100 (8, 0) rfl) rfl (hA.2.1 100 0 200 rfl) ?_
      refine r_iload_n hX dX9_thingTold_87 rfl ?_
      refine r_callVF (As := [.int (nI t)]) (rest := []) hX (c_X3_placeOf 200 hC σ6 A g010 gW11 gX12 hV (shI A) hP9 t (by omega)) dX9_thingTold_88 cb_X9_98 (hC.1 0 (2, 0) rfl) rfl rfl ⟨Nat.le_of_ble_eq_true rfl, Nat.le_of_ble_eq_true rfl⟩ ⟨Nat.le_of_ble_eq_true rfl, Nat.le_of_ble_eq_true rfl⟩ (Nat.le_of_ble_eq_true rfl) ?_
      exact r_ireturn hX hQ dX9_thingTold_91 ⟨Nat.le_of_ble_eq_true rfl, Nat.le_of_ble_eq_true rfl⟩ (PI.mk ⟨by rw [oThingTold, if_pos c1, if_neg (by decide), if_neg (by decide), if_neg (by decide), if_pos rfl, nI_clamp (by omega)], (Cs.tr (Cs.rf σ) hS8)⟩)
    refine r_tabOut hX 92 dX9_thingTold_12 (by have := ne_toInt (by decide) e2; have := ne_toInt (by decide) e3; have := ne_toInt (by decide) e4; have := ne_toInt (by decide) e5; omega) (by decide) ?_
    refine r_ldc hX dX9_thingTold_92 ko_X9_75 ?_
    exact r_ireturn hX hQ dX9_thingTold_94 ⟨Nat.le_of_ble_eq_true rfl, Nat.le_of_ble_eq_true rfl⟩ (PI.mk ⟨by rw [oThingTold, if_pos c1, if_neg e2, if_neg e3, if_neg e4, if_neg e5], (Cs.rf σ)⟩)
  · skip
    refine r_ldc hX dX9_thingTold_8 ko_X9_75 ?_
    exact r_ireturn hX hQ dX9_thingTold_10 ⟨Nat.le_of_ble_eq_true rfl, Nat.le_of_ble_eq_true rfl⟩ (PI.mk ⟨by rw [oThingTold, if_neg (by rw [c1]; decide)], (Cs.rf σ)⟩)

set_option maxHeartbeats 4000000 in
set_option maxRecDepth 100000 in
theorem c_X9_set {l : Launch} {D : Ds} {L : La}  (hA : CAt L) (σ : Me) (A : Al) (h0 : R0 σ 200 A) (hW : RW σ 200 A) (hTx : RX' L σ 200 A) (hV : Va A) (th wh v : Int32) : Ct l yX9_set cX9_set 6 (some .int) { frames := 2, cells := 0, slots := 0, locals := 43 } D L σ [.ref (L.1 100), .int th, .int wh, .int v] (PI L (fun r σ2 => r = (oSet A th wh v).1 ∧ RC L σ2 200 (oSet A th wh v).2 ∧ Cb 200 σ σ2)) := by
  refine Ct.of (by decide) (Nat.le_of_ble_eq_true rfl) ?_
  intro X hl hD hnl hX0 hQ
  have hX : Ok X cX9_set RX9 "set" { frames := 2, cells := 0, slots := 0, locals := 43 } (some .int) := hX0
  have hN4 : 4 < xn X := by rw [hnl]; decide
  have hN5 : 5 < xn X := by rw [hnl]; decide
  have hC := hA.2.2
  have hbb := hC.2.2
  have hW24 := hV.2.2.1
  have hT6 := hV.1
  have hN12 := hV.2.1
  have hX14 := hV.2.2.2.1
  show At X L σ 0 0 [(0, .ref (L.1 100)), (1, .int th), (2, .int wh), (3, .int v)] 0 []
  refine r_aload_n hX dX9_set_0 rfl ?_
  refine r_iload_n hX dX9_set_1 rfl ?_
  refine r_callVF (As := [.int th]) (rest := []) hX (c_X9_isThing hA σ A h0 hW hTx hV th) dX9_set_2 cb_X9_76 (hA.1 100 (8, 0) rfl) rfl rfl ⟨Nat.le_of_ble_eq_true rfl, Nat.le_of_ble_eq_true rfl⟩ ⟨Nat.le_of_ble_eq_true rfl, Nat.le_of_ble_eq_true rfl⟩ (Nat.le_of_ble_eq_true rfl) ?_
  refine r_ifB_eq hX dX9_set_5 (fun c1 => ?_) (fun c1 => ?_)
  · skip
    refine r_ldc hX dX9_set_37 ko_X9_75 ?_
    exact r_ireturn hX hQ dX9_set_39 ⟨Nat.le_of_ble_eq_true rfl, Nat.le_of_ble_eq_true rfl⟩ (PI.mk (by rw [oSet, if_neg (by rw [c1]; decide)]; exact ⟨rfl, ⟨h0, hW, hTx⟩, (Cb.rf 200 σ)⟩))
  · skip
    obtain ⟨t, ht, rfl⟩ := isB_nat c1 (by omega)
    refine r_iload_n hX dX9_set_8 rfl ?_
    refine r_iconst hX (nI 0) dX9_set_9 rfl ?_
    refine r_iconst hX (nI 1) dX9_set_10 rfl ?_
    refine r_callSF (As := [.int wh, .int (nI 0), .int (nI 1)]) (rest := []) hX (c_X9_within σ wh (nI 0) (nI 1)) dX9_set_11 cb_X9_67 rfl rfl ⟨Nat.le_of_ble_eq_true rfl, Nat.le_of_ble_eq_true rfl⟩ ⟨Nat.le_of_ble_eq_true rfl, Nat.le_of_ble_eq_true rfl⟩ (Nat.le_of_ble_eq_true rfl) ?_
    refine r_ifB_eq hX dX9_set_14 (fun c2 => ?_) (fun c2 => ?_)
    · skip
      refine r_ldc hX dX9_set_37 ko_X9_75 ?_
      exact r_ireturn hX hQ dX9_set_39 ⟨Nat.le_of_ble_eq_true rfl, Nat.le_of_ble_eq_true rfl⟩ (PI.mk (by rw [oSet, if_pos c1, if_neg (fun e => by rw [e] at c2; exact absurd c2 (by decide)), if_neg (fun e => by rw [e] at c2; exact absurd c2 (by decide))]; exact ⟨rfl, ⟨h0, hW, hTx⟩, (Cb.rf 200 σ)⟩))
    · skip
      obtain ⟨q, hql, hq, rfl⟩ := inB_nat c2 (by decide) (by decide)
      rcases (show q = 0 ∨ q = 1 by omega) with rfl | rfl
      · skip
        refine r_iload_n hX dX9_set_17 rfl ?_
        refine r_iconst hX (nI 0) dX9_set_18 rfl ?_
        refine r_iload_n hX dX9_set_19 rfl ?_
        refine r_ifN_ne hX dX9_set_20 (by decide) (fun c3 => absurd c3 (by decide)) (fun c3 => ?_)
        refine r_bipush hX (nI 100) dX9_set_23 rfl ?_
        refine r_goto hX dX9_set_25 ?_
        refine r_callSF (As := [.int v, .int (nI 0), .int (nI 100)]) (rest := []) hX (c_X9_within σ v (nI 0) (nI 100)) dX9_set_31 cb_X9_67 rfl rfl ⟨Nat.le_of_ble_eq_true rfl, Nat.le_of_ble_eq_true rfl⟩ ⟨Nat.le_of_ble_eq_true rfl, Nat.le_of_ble_eq_true rfl⟩ (Nat.le_of_ble_eq_true rfl) ?_
        refine r_ifB_ne hX dX9_set_34 (fun c4 => ?_) (fun c4 => ?_)
        · skip
          obtain ⟨u, hul, hu, rfl⟩ := inB_nat c4 (by decide) (by decide)
          refine r_iload_n hX dX9_set_40 rfl ?_
          refine r_ifN_ne hX dX9_set_41 (by decide) (fun c5 => absurd c5 (by decide)) (fun c5 => ?_)
          refine r_aload_n hX dX9_set_44 rfl ?_
          refine r_getR hX dX9_set_45 fl_X9_10 (hA.1 100 (8, 0) rfl) rfl (hA.2.1 100 0 200 rfl) ?_
          refine r_getR hX dX9_set_48 fl_X9_80 (hC.1 0 (2, 0) rfl) rfl (hC.2.1 0 1 1 rfl) ?_
          refine r_goto hX dX9_set_51 ?_
          refine r_astore hX [(0, .ref (L.1 100)), (1, .int (nI t)), (2, .int (nI 0)), (3, .int (nI u)), (4, .ref (L.1 (200 + 1)))] dX9_set_61 hN4 rfl ?_
          refine r_aload hX dX9_set_63 rfl ?_
          refine r_iload_n hX dX9_set_65 rfl ?_
          refine r_aldN hX dX9_set_66 (hC.1 1 (10, 6) rfl) (by decide) (by omega) (nI (aO A t)) (h0.2.2.2.2.1 t (by omega)) ?_
          refine r_istore hX [(0, .ref (L.1 100)), (1, .int (nI t)), (2, .int (nI 0)), (3, .int (nI u)), (4, .ref (L.1 (200 + 1))), (5, .int (nI (aO A t)))] dX9_set_67 hN5 rfl ?_
          refine r_aload hX dX9_set_69 rfl ?_
          refine r_iload_n hX dX9_set_71 rfl ?_
          refine r_iload_n hX dX9_set_72 rfl ?_
          refine r_astN hX dX9_set_73 (hC.1 1 (10, 6) rfl) (by decide) (by omega) ?_
          refine r_iload hX dX9_set_74 rfl ?_
          exact r_ireturn hX hQ dX9_set_76 ⟨Nat.le_of_ble_eq_true rfl, Nat.le_of_ble_eq_true rfl⟩ (PI.mk (by rw [oSet, if_pos c1, if_pos rfl, if_pos c4, nI_clamp (by omega), nI_clamp (by omega)]; exact ⟨rfl, ⟨r0_setO h0, RW.al (RW.kept hW (fun c i hc => up_n (by omega))) rfl rfl, RX'.al (RX'.kept hTx (fun c i h1 h2 => up_n (by omega))) rfl⟩, (Cb.up (Cb.rf 200 σ) (by omega))⟩))
        · skip
          refine r_ldc hX dX9_set_37 ko_X9_75 ?_
          exact r_ireturn hX hQ dX9_set_39 ⟨Nat.le_of_ble_eq_true rfl, Nat.le_of_ble_eq_true rfl⟩ (PI.mk (by rw [oSet, if_pos c1, if_pos rfl, if_neg (by rw [c4]; decide)]; exact ⟨rfl, ⟨h0, hW, hTx⟩, (Cb.rf 200 σ)⟩))
      · skip
        refine r_iload_n hX dX9_set_17 rfl ?_
        refine r_iconst hX (nI 0) dX9_set_18 rfl ?_
        refine r_iload_n hX dX9_set_19 rfl ?_
        refine r_ifN_ne hX dX9_set_20 (by decide) (fun c6 => ?_) (fun c6 => absurd c6 (by decide))
        refine r_sipush hX (nI 9999) dX9_set_28 rfl ?_
        refine r_callSF (As := [.int v, .int (nI 0), .int (nI 9999)]) (rest := []) hX (c_X9_within σ v (nI 0) (nI 9999)) dX9_set_31 cb_X9_67 rfl rfl ⟨Nat.le_of_ble_eq_true rfl, Nat.le_of_ble_eq_true rfl⟩ ⟨Nat.le_of_ble_eq_true rfl, Nat.le_of_ble_eq_true rfl⟩ (Nat.le_of_ble_eq_true rfl) ?_
        refine r_ifB_ne hX dX9_set_34 (fun c7 => ?_) (fun c7 => ?_)
        · skip
          obtain ⟨u, hul, hu, rfl⟩ := inB_nat c7 (by decide) (by decide)
          refine r_iload_n hX dX9_set_40 rfl ?_
          refine r_ifN_ne hX dX9_set_41 (by decide) (fun c8 => ?_) (fun c8 => absurd c8 (by decide))
          refine r_aload_n hX dX9_set_54 rfl ?_
          refine r_getR hX dX9_set_55 fl_X9_10 (hA.1 100 (8, 0) rfl) rfl (hA.2.1 100 0 200 rfl) ?_
          refine r_getR hX dX9_set_58 fl_X9_83 (hC.1 0 (2, 0) rfl) rfl (hC.2.1 0 2 2 rfl) ?_
          refine r_astore hX [(0, .ref (L.1 100)), (1, .int (nI t)), (2, .int (nI 1)), (3, .int (nI u)), (4, .ref (L.1 (200 + 2)))] dX9_set_61 hN4 rfl ?_
          refine r_aload hX dX9_set_63 rfl ?_
          refine r_iload_n hX dX9_set_65 rfl ?_
          refine r_aldN hX dX9_set_66 (hC.1 2 (10, 6) rfl) (by decide) (by omega) (nI (aB A t)) (h0.2.2.2.2.2.1 t (by omega)) ?_
          refine r_istore hX [(0, .ref (L.1 100)), (1, .int (nI t)), (2, .int (nI 1)), (3, .int (nI u)), (4, .ref (L.1 (200 + 2))), (5, .int (nI (aB A t)))] dX9_set_67 hN5 rfl ?_
          refine r_aload hX dX9_set_69 rfl ?_
          refine r_iload_n hX dX9_set_71 rfl ?_
          refine r_iload_n hX dX9_set_72 rfl ?_
          refine r_astN hX dX9_set_73 (hC.1 2 (10, 6) rfl) (by decide) (by omega) ?_
          refine r_iload hX dX9_set_74 rfl ?_
          exact r_ireturn hX hQ dX9_set_76 ⟨Nat.le_of_ble_eq_true rfl, Nat.le_of_ble_eq_true rfl⟩ (PI.mk (by rw [oSet, if_pos c1, if_neg (by decide), if_pos rfl, if_pos c7, nI_clamp (by omega), nI_clamp (by omega)]; exact ⟨rfl, ⟨r0_setB h0, RW.al (RW.kept hW (fun c i hc => up_n (by omega))) rfl rfl, RX'.al (RX'.kept hTx (fun c i h1 h2 => up_n (by omega))) rfl⟩, (Cb.up (Cb.rf 200 σ) (by omega))⟩))
        · skip
          refine r_ldc hX dX9_set_37 ko_X9_75 ?_
          exact r_ireturn hX hQ dX9_set_39 ⟨Nat.le_of_ble_eq_true rfl, Nat.le_of_ble_eq_true rfl⟩ (PI.mk (by rw [oSet, if_pos c1, if_neg (by decide), if_pos rfl, if_neg (by rw [c7]; decide)]; exact ⟨rfl, ⟨h0, hW, hTx⟩, (Cb.rf 200 σ)⟩))

set_option maxHeartbeats 4000000 in
set_option maxRecDepth 100000 in
theorem c_X9_nameTold {l : Launch} {D : Ds} {L : La}  (hA : CAt L) (σ : Me) (A : Al) (h0 : R0 σ 200 A) (hW : RW σ 200 A) (hTx : RX' L σ 200 A) (hV : Va A) (nm wh : Int32) : Ct l yX9_nameTold cX9_nameTold 3 (some .int) { frames := 1, cells := 0, slots := 0, locals := 23 } D L σ [.ref (L.1 100), .int nm, .int wh] (PF L σ (oNameTold A nm wh)) := by
  refine Ct.of (by decide) (Nat.le_of_ble_eq_true rfl) ?_
  intro X hl hD hnl hX0 hQ
  have hX : Ok X cX9_nameTold RX9 "nameTold" { frames := 1, cells := 0, slots := 0, locals := 23 } (some .int) := hX0
  have hC := hA.2.2
  have hbb := hC.2.2
  have hW24 := hV.2.2.1
  have hT6 := hV.1
  have hN12 := hV.2.1
  have hX14 := hV.2.2.2.1
  show At X L σ 0 0 [(0, .ref (L.1 100)), (1, .int nm), (2, .int wh)] 0 []
  refine r_iload_n hX dX9_nameTold_0 rfl ?_
  refine r_iconst hX (nI 0) dX9_nameTold_1 rfl ?_
  refine r_aload_n hX dX9_nameTold_2 rfl ?_
  refine r_getR hX dX9_nameTold_3 fl_X9_10 (hA.1 100 (8, 0) rfl) rfl (hA.2.1 100 0 200 rfl) ?_
  refine r_getIV hX dX9_nameTold_6 fl_X9_107 (hC.1 0 (2, 0) rfl) rfl (nI (aN A)) h0.2.1 ?_
  refine r_iconst hX (nI 1) dX9_nameTold_9 rfl ?_
  refine r_isub hX dX9_nameTold_10 ?_
  refine r_callSF (As := [.int nm, .int (nI 0), .int ((nI (aN A)) - (nI 1))]) (rest := []) hX (c_X9_within σ nm (nI 0) ((nI (aN A)) - (nI 1))) dX9_nameTold_11 cb_X9_67 rfl rfl ⟨Nat.le_of_ble_eq_true rfl, Nat.le_of_ble_eq_true rfl⟩ ⟨Nat.le_of_ble_eq_true rfl, Nat.le_of_ble_eq_true rfl⟩ (Nat.le_of_ble_eq_true rfl) ?_
  refine r_ifB_ne hX dX9_nameTold_14 (fun c1 => ?_) (fun c1 => ?_)
  · skip
    obtain ⟨n, hn, rfl⟩ := isB_nat (n := aN A) c1 (by omega)
    refine r_iload_n hX dX9_nameTold_20 rfl ?_
    by_cases e2 : wh = nI 0
    · skip
      subst e2
      refine r_tabInN (v := 0) hX 48 dX9_nameTold_21 (by decide) (by decide) (by decide) 27 rfl (by decide) ?_
      refine r_aload_n hX dX9_nameTold_48 rfl ?_
      refine r_getR hX dX9_nameTold_49 fl_X9_10 (hA.1 100 (8, 0) rfl) rfl (hA.2.1 100 0 200 rfl) ?_
      refine r_getR hX dX9_nameTold_52 fl_X9_110 (hC.1 0 (2, 0) rfl) rfl (hC.2.1 0 4 3 rfl) ?_
      refine r_iload_n hX dX9_nameTold_55 rfl ?_
      refine r_aldN hX dX9_nameTold_56 (hC.1 3 (10, 12) rfl) (by decide) (by omega) (nI (aE A n)) (h0.2.2.2.2.2.2.1 n (by omega)) ?_
      exact r_ireturn hX hQ dX9_nameTold_57 ⟨Nat.le_of_ble_eq_true rfl, Nat.le_of_ble_eq_true rfl⟩ (PF.mk (by rw [oNameTold, if_pos (show isB _ _ = true from c1), if_pos rfl, nI_clamp (by omega)]))
    by_cases e3 : wh = nI 1
    · skip
      subst e3
      refine r_tabInN (v := 1) hX 58 dX9_nameTold_21 (by decide) (by decide) (by decide) 37 rfl (by decide) ?_
      refine r_aload_n hX dX9_nameTold_58 rfl ?_
      refine r_getR hX dX9_nameTold_59 fl_X9_10 (hA.1 100 (8, 0) rfl) rfl (hA.2.1 100 0 200 rfl) ?_
      refine r_getR hX dX9_nameTold_62 fl_X9_86 (hC.1 0 (2, 0) rfl) rfl (hC.2.1 0 5 4 rfl) ?_
      refine r_iload_n hX dX9_nameTold_65 rfl ?_
      refine r_callVF (As := [.int (nI n)]) (rest := []) hX (c_X8_countBy 200 hC σ A hW hV n (by omega)) dX9_nameTold_66 cb_X9_113 (hC.1 4 (7, 0) rfl) rfl rfl ⟨Nat.le_of_ble_eq_true rfl, Nat.le_of_ble_eq_true rfl⟩ ⟨Nat.le_of_ble_eq_true rfl, Nat.le_of_ble_eq_true rfl⟩ (Nat.le_of_ble_eq_true rfl) ?_
      exact r_ireturn hX hQ dX9_nameTold_69 ⟨Nat.le_of_ble_eq_true rfl, Nat.le_of_ble_eq_true rfl⟩ (PF.mk (by rw [oNameTold, if_pos (show isB _ _ = true from c1), if_neg (by decide), if_pos rfl, nI_clamp (by omega)]))
    by_cases e4 : wh = nI 2
    · skip
      subst e4
      refine r_tabInN (v := 2) hX 70 dX9_nameTold_21 (by decide) (by decide) (by decide) 49 rfl (by decide) ?_
      refine r_aload_n hX dX9_nameTold_70 rfl ?_
      refine r_getR hX dX9_nameTold_71 fl_X9_10 (hA.1 100 (8, 0) rfl) rfl (hA.2.1 100 0 200 rfl) ?_
      refine r_getR hX dX9_nameTold_74 fl_X9_86 (hC.1 0 (2, 0) rfl) rfl (hC.2.1 0 5 4 rfl) ?_
      refine r_iload_n hX dX9_nameTold_77 rfl ?_
      refine r_callVF (As := [.int (nI n)]) (rest := []) hX (c_X8_firstHourBy 200 hC σ A hW hV n (by omega)) dX9_nameTold_78 cb_X9_116 (hC.1 4 (7, 0) rfl) rfl rfl ⟨Nat.le_of_ble_eq_true rfl, Nat.le_of_ble_eq_true rfl⟩ ⟨Nat.le_of_ble_eq_true rfl, Nat.le_of_ble_eq_true rfl⟩ (Nat.le_of_ble_eq_true rfl) ?_
      exact r_ireturn hX hQ dX9_nameTold_81 ⟨Nat.le_of_ble_eq_true rfl, Nat.le_of_ble_eq_true rfl⟩ (PF.mk (by rw [oNameTold, if_pos (show isB _ _ = true from c1), if_neg (by decide), if_neg (by decide), if_pos rfl, nI_clamp (by omega)]))
    refine r_tabOut hX 82 dX9_nameTold_21 (by have := ne_toInt (by decide) e2; have := ne_toInt (by decide) e3; have := ne_toInt (by decide) e4; omega) (by decide) ?_
    refine r_ldc hX dX9_nameTold_82 ko_X9_75 ?_
    exact r_ireturn hX hQ dX9_nameTold_84 ⟨Nat.le_of_ble_eq_true rfl, Nat.le_of_ble_eq_true rfl⟩ (PF.mk (by rw [oNameTold, if_pos (show isB _ _ = true from c1), if_neg e2, if_neg e3, if_neg e4]))
  · skip
    refine r_ldc hX dX9_nameTold_17 ko_X9_75 ?_
    exact r_ireturn hX hQ dX9_nameTold_19 ⟨Nat.le_of_ble_eq_true rfl, Nat.le_of_ble_eq_true rfl⟩ (PF.mk (by rw [oNameTold, if_neg (fun e => by unfold isB at e; rw [c1] at e; cases e)]))

set_option maxHeartbeats 4000000 in
set_option maxRecDepth 100000 in
theorem c_X9_word {l : Launch} {D : Ds} {L : La}  (hA : CAt L) (σ : Me) (A : Al) (h0 : R0 σ 200 A) (hW : RW σ 200 A) (hTx : RX' L σ 200 A) (hV : Va A) (k o a : Int32) : Ct l yX9_word cX9_word 4 (some .int) { frames := 3, cells := 0, slots := 0, locals := 62 } D L σ [.ref (L.1 100), .int k, .int o, .int a] (PI L (fun r σ2 => r = (oWord A k o a).1 ∧ RC L σ2 200 (oWord A k o a).2 ∧ Cb 200 σ σ2)) := by
  refine Ct.of (by decide) (Nat.le_of_ble_eq_true rfl) ?_
  intro X hl hD hnl hX0 hQ
  have hX : Ok X cX9_word RX9 "word" { frames := 3, cells := 0, slots := 0, locals := 62 } (some .int) := hX0
  have hC := hA.2.2
  have hbb := hC.2.2
  have hW24 := hV.2.2.1
  have hT6 := hV.1
  have hN12 := hV.2.1
  have hX14 := hV.2.2.2.1
  show At X L σ 0 0 [(0, .ref (L.1 100)), (1, .int k), (2, .int o), (3, .int a)] 0 []
  refine r_iload_n hX dX9_word_0 rfl ?_
  refine r_callSF (As := [.int k]) (rest := []) hX (c_X9_isKind σ k) dX9_word_1 cb_X9_119 rfl rfl ⟨Nat.le_of_ble_eq_true rfl, Nat.le_of_ble_eq_true rfl⟩ ⟨Nat.le_of_ble_eq_true rfl, Nat.le_of_ble_eq_true rfl⟩ (Nat.le_of_ble_eq_true rfl) ?_
  refine r_ifB_eq hX dX9_word_4 (fun c1 => ?_) (fun c1 => ?_)
  · skip
    refine r_ldc hX dX9_word_22 ko_X9_75 ?_
    exact r_ireturn hX hQ dX9_word_24 ⟨Nat.le_of_ble_eq_true rfl, Nat.le_of_ble_eq_true rfl⟩ (PI.mk (by rw [oWord, if_neg (fun e => by have e := e.1; rw [c1] at e; cases e)]; exact ⟨rfl, ⟨h0, hW, hTx⟩, (Cb.rf 200 σ)⟩))
  · skip
    obtain ⟨q, hql, hq, rfl⟩ := inB_nat c1 (by decide) (by decide)
    refine r_aload_n hX dX9_word_7 rfl ?_
    refine r_iload_n hX dX9_word_8 rfl ?_
    refine r_callVF (As := [.int o]) (rest := []) hX (c_X9_isPair hA σ A h0 hW hTx hV o) dX9_word_9 cb_X9_122 (hA.1 100 (8, 0) rfl) rfl rfl ⟨Nat.le_of_ble_eq_true rfl, Nat.le_of_ble_eq_true rfl⟩ ⟨Nat.le_of_ble_eq_true rfl, Nat.le_of_ble_eq_true rfl⟩ (Nat.le_of_ble_eq_true rfl) ?_
    refine r_ifB_eq hX dX9_word_12 (fun c2 => ?_) (fun c2 => ?_)
    · skip
      refine r_ldc hX dX9_word_22 ko_X9_75 ?_
      exact r_ireturn hX hQ dX9_word_24 ⟨Nat.le_of_ble_eq_true rfl, Nat.le_of_ble_eq_true rfl⟩ (PI.mk (by rw [oWord, if_neg (fun e => by have e := e.2.1; rw [c2] at e; cases e)]; exact ⟨rfl, ⟨h0, hW, hTx⟩, (Cb.rf 200 σ)⟩))
    · skip
      obtain ⟨p, hp, rfl, hp1, hp2⟩ := of_nat hV c2
      refine r_iload_n hX dX9_word_15 rfl ?_
      refine r_callSF (As := [.int a]) (rest := []) hX (c_X9_isMoment σ a) dX9_word_16 cb_X9_125 rfl rfl ⟨Nat.le_of_ble_eq_true rfl, Nat.le_of_ble_eq_true rfl⟩ ⟨Nat.le_of_ble_eq_true rfl, Nat.le_of_ble_eq_true rfl⟩ (Nat.le_of_ble_eq_true rfl) ?_
      refine r_ifB_ne hX dX9_word_19 (fun c3 => ?_) (fun c3 => ?_)
      · skip
        obtain ⟨u, hu, rfl, hu1, hu2⟩ := at_nat c3
        refine r_aload_n hX dX9_word_25 rfl ?_
        refine r_getR hX dX9_word_26 fl_X9_10 (hA.1 100 (8, 0) rfl) rfl (hA.2.1 100 0 200 rfl) ?_
        refine r_getR hX dX9_word_29 fl_X9_86 (hC.1 0 (2, 0) rfl) rfl (hC.2.1 0 5 4 rfl) ?_
        refine r_iload_n hX dX9_word_32 rfl ?_
        refine r_iload_n hX dX9_word_33 rfl ?_
        refine r_bipush hX (nI 100) dX9_word_34 rfl ?_
        refine r_idivN hX dX9_word_36 (by omega) (by decide) (by decide) ?_
        refine r_iload_n hX dX9_word_37 rfl ?_
        refine r_bipush hX (nI 100) dX9_word_38 rfl ?_
        refine r_iremN hX dX9_word_40 (by omega) (by decide) (by decide) ?_
        refine r_iload_n hX dX9_word_41 rfl ?_
        refine r_bipush hX (nI 10) dX9_word_42 rfl ?_
        refine r_idivN hX dX9_word_44 (by omega) (by decide) (by decide) ?_
        refine r_iload_n hX dX9_word_45 rfl ?_
        refine r_bipush hX (nI 10) dX9_word_46 rfl ?_
        refine r_iremN hX dX9_word_48 (by omega) (by decide) (by decide) ?_
        refine r_callVI (As := [.int (nI q), .int (nI (p / 100)), .int (nI (p % 100)), .int (nI (u / 10)), .int (nI (u % 10))]) (rest := []) hX (c_X8_write 200 hC σ A hW hV q (p / 100) (p % 100) (u / 10) (u % 10)) dX9_word_49 cb_X9_128 (hC.1 4 (7, 0) rfl) rfl rfl ⟨Nat.le_of_ble_eq_true rfl, Nat.le_of_ble_eq_true rfl⟩ ⟨Nat.le_of_ble_eq_true rfl, Nat.le_of_ble_eq_true rfl⟩ (Nat.le_of_ble_eq_true rfl) (fun r4 σ5 h6 => ?_)
        obtain ⟨rfl, hw7, hf8⟩ := h6
        have hRC9 : RC L σ5 200 (wrA A q (p / 100) (p % 100) (u / 10) (u % 10)) := RC.wrA ⟨h0, hW, hTx⟩ (by omega) hw7 hf8
        exact r_ireturn hX hQ dX9_word_52 ⟨Nat.le_of_ble_eq_true rfl, Nat.le_of_ble_eq_true rfl⟩ (PI.mk (by rw [oWord, if_pos ⟨c1, c2, c3⟩, nI_clamp (by omega), nI_clamp (by omega), nI_clamp (by omega)]; exact word_fin (by omega) hRC9 (Cb.tr (Cb.rf 200 σ) hf8.cb)))
      · skip
        refine r_ldc hX dX9_word_22 ko_X9_75 ?_
        exact r_ireturn hX hQ dX9_word_24 ⟨Nat.le_of_ble_eq_true rfl, Nat.le_of_ble_eq_true rfl⟩ (PI.mk (by rw [oWord, if_neg (fun e => by have e := e.2.2; rw [c3] at e; cases e)]; exact ⟨rfl, ⟨h0, hW, hTx⟩, (Cb.rf 200 σ)⟩))

set_option maxHeartbeats 4000000 in
set_option maxRecDepth 100000 in
theorem c_X9_told {l : Launch} {D : Ds} {L : La}  (ka : Nat) (hK : KS D ka) (hA : CAt L) (σ : Me) (A : Al) (h0 : R0 σ 200 A) (hW : RW σ 200 A) (hTx : RX' L σ 200 A) (hV : Va A) (wo wh : Int32) : Ct l yX9_told cX9_told 4 (some .int) { frames := 3, cells := 0, slots := 0, locals := 74 } D L σ [.ref (L.1 100), .int wo, .int wh] (PI L (fun r σ2 => r = oTold A wo wh ∧ Cs σ σ2)) := by
  refine Ct.of (by decide) (Nat.le_of_ble_eq_true rfl) ?_
  intro X hl hD hnl hX0 hQ
  have hX : Ok X cX9_told RX9 "told" { frames := 3, cells := 0, slots := 0, locals := 74 } (some .int) := hX0
  have hN3 : 3 < xn X := by rw [hnl]; decide
  have hC := hA.2.2
  have hbb := hC.2.2
  have hW24 := hV.2.2.1
  have hT6 := hV.1
  have hN12 := hV.2.1
  have hX14 := hV.2.2.2.1
  show At X L σ 0 0 [(0, .ref (L.1 100)), (1, .int wo), (2, .int wh)] 0 []
  refine r_aload_n hX dX9_told_0 rfl ?_
  refine r_iload_n hX dX9_told_1 rfl ?_
  refine r_callVF (As := [.int wo]) (rest := []) hX (c_X9_isWord hA σ A h0 hW hTx hV wo) dX9_told_2 cb_X9_132 (hA.1 100 (8, 0) rfl) rfl rfl ⟨Nat.le_of_ble_eq_true rfl, Nat.le_of_ble_eq_true rfl⟩ ⟨Nat.le_of_ble_eq_true rfl, Nat.le_of_ble_eq_true rfl⟩ (Nat.le_of_ble_eq_true rfl) ?_
  refine r_ifB_ne hX dX9_told_5 (fun c1 => ?_) (fun c1 => ?_)
  · skip
    obtain ⟨w, hw, rfl⟩ := isB_nat c1 (by omega)
    have hwf := hV.2.2.2.2.2.2.1 w hw
    refine r_aload_n hX dX9_told_11 rfl ?_
    refine r_getR hX dX9_told_12 fl_X9_10 (hA.1 100 (8, 0) rfl) rfl (hA.2.1 100 0 200 rfl) ?_
    refine r_getR hX dX9_told_15 fl_X9_86 (hC.1 0 (2, 0) rfl) rfl (hC.2.1 0 5 4 rfl) ?_
    refine r_astore_n hX [(0, .ref (L.1 100)), (1, .int (nI w)), (2, .int wh), (3, .ref (L.1 (200 + 4)))] dX9_told_18 hN3 rfl ?_
    refine r_iload_n hX dX9_told_19 rfl ?_
    by_cases e2 : wh = nI 0
    · skip
      subst e2
      refine r_tabInN (v := 0) hX 72 dX9_told_20 (by decide) (by decide) (by decide) 52 rfl (by decide) ?_
      refine r_aload_n hX dX9_told_72 rfl ?_
      refine r_getR hX dX9_told_73 fl_X9_135 (hC.1 4 (7, 0) rfl) rfl (hC.2.1 4 1 9 rfl) ?_
      refine r_iload_n hX dX9_told_76 rfl ?_
      refine r_aldN hX dX9_told_77 (hC.1 9 (10, 24) rfl) (by decide) (by omega) (nI (aF A w 0)) (hW.2.1 w (by omega)) ?_
      exact r_ireturn hX hQ dX9_told_78 ⟨Nat.le_of_ble_eq_true rfl, Nat.le_of_ble_eq_true rfl⟩ (PI.mk ⟨by rw [oTold, if_pos c1, if_pos rfl, nI_clamp (by omega)], (Cs.rf σ)⟩)
    by_cases e3 : wh = nI 1
    · skip
      subst e3
      refine r_tabInN (v := 1) hX 79 dX9_told_20 (by decide) (by decide) (by decide) 59 rfl (by decide) ?_
      refine r_aload_n hX dX9_told_79 rfl ?_
      refine r_getR hX dX9_told_80 fl_X9_138 (hC.1 4 (7, 0) rfl) rfl (hC.2.1 4 2 10 rfl) ?_
      refine r_iload_n hX dX9_told_83 rfl ?_
      refine r_aldN hX dX9_told_84 (hC.1 10 (10, 24) rfl) (by decide) (by omega) (nI (aF A w 1)) (hW.2.2.1 w (by omega)) ?_
      exact r_ireturn hX hQ dX9_told_85 ⟨Nat.le_of_ble_eq_true rfl, Nat.le_of_ble_eq_true rfl⟩ (PI.mk ⟨by rw [oTold, if_pos c1, if_neg (by decide), if_pos rfl, nI_clamp (by omega)], (Cs.rf σ)⟩)
    by_cases e4 : wh = nI 2
    · skip
      subst e4
      refine r_tabInN (v := 2) hX 86 dX9_told_20 (by decide) (by decide) (by decide) 66 rfl (by decide) ?_
      refine r_aload_n hX dX9_told_86 rfl ?_
      refine r_getR hX dX9_told_87 fl_X9_141 (hC.1 4 (7, 0) rfl) rfl (hC.2.1 4 3 11 rfl) ?_
      refine r_iload_n hX dX9_told_90 rfl ?_
      refine r_aldN hX dX9_told_91 (hC.1 11 (10, 24) rfl) (by decide) (by omega) (nI (aF A w 2)) (hW.2.2.2.1 w (by omega)) ?_
      exact r_ireturn hX hQ dX9_told_92 ⟨Nat.le_of_ble_eq_true rfl, Nat.le_of_ble_eq_true rfl⟩ (PI.mk ⟨by rw [oTold, if_pos c1, if_neg (by decide), if_neg (by decide), if_pos rfl, nI_clamp (by omega)], (Cs.rf σ)⟩)
    by_cases e5 : wh = nI 3
    · skip
      subst e5
      refine r_tabInN (v := 3) hX 93 dX9_told_20 (by decide) (by decide) (by decide) 73 rfl (by decide) ?_
      refine r_aload_n hX dX9_told_93 rfl ?_
      refine r_getR hX dX9_told_94 fl_X9_144 (hC.1 4 (7, 0) rfl) rfl (hC.2.1 4 4 12 rfl) ?_
      refine r_iload_n hX dX9_told_97 rfl ?_
      refine r_aldN hX dX9_told_98 (hC.1 12 (10, 24) rfl) (by decide) (by omega) (nI (aF A w 3)) (hW.2.2.2.2.1 w (by omega)) ?_
      exact r_ireturn hX hQ dX9_told_99 ⟨Nat.le_of_ble_eq_true rfl, Nat.le_of_ble_eq_true rfl⟩ (PI.mk ⟨by rw [oTold, if_pos c1, if_neg (by decide), if_neg (by decide), if_neg (by decide), if_pos rfl, nI_clamp (by omega)], (Cs.rf σ)⟩)
    by_cases e6 : wh = nI 4
    · skip
      subst e6
      refine r_tabInN (v := 4) hX 100 dX9_told_20 (by decide) (by decide) (by decide) 80 rfl (by decide) ?_
      refine r_aload_n hX dX9_told_100 rfl ?_
      refine r_getR hX dX9_told_101 fl_X9_147 (hC.1 4 (7, 0) rfl) rfl (hC.2.1 4 5 13 rfl) ?_
      refine r_iload_n hX dX9_told_104 rfl ?_
      refine r_aldN hX dX9_told_105 (hC.1 13 (10, 24) rfl) (by decide) (by omega) (nI (aF A w 4)) (hW.2.2.2.2.2 w (by omega)) ?_
      exact r_ireturn hX hQ dX9_told_106 ⟨Nat.le_of_ble_eq_true rfl, Nat.le_of_ble_eq_true rfl⟩ (PI.mk ⟨by rw [oTold, if_pos c1, if_neg (by decide), if_neg (by decide), if_neg (by decide), if_neg (by decide), if_pos rfl, nI_clamp (by omega)], (Cs.rf σ)⟩)
    by_cases e7 : wh = nI 5
    · skip
      subst e7
      refine r_tabInN (v := 5) hX 107 dX9_told_20 (by decide) (by decide) (by decide) 87 rfl (by decide) ?_
      refine r_aload_n hX dX9_told_107 rfl ?_
      refine r_getR hX dX9_told_108 fl_X9_10 (hA.1 100 (8, 0) rfl) rfl (hA.2.1 100 0 200 rfl) ?_
      refine r_iload_n hX dX9_told_111 rfl ?_
      refine r_callVI (As := [.int (nI w)]) (rest := []) hX (c_X3_weightOf 200 hC σ A h0 hW hTx hV w (by omega)) dX9_told_112 cb_X9_150 (hC.1 0 (2, 0) rfl) rfl rfl ⟨Nat.le_of_ble_eq_true rfl, Nat.le_of_ble_eq_true rfl⟩ ⟨Nat.le_of_ble_eq_true rfl, Nat.le_of_ble_eq_true rfl⟩ (Nat.le_of_ble_eq_true rfl) (fun r8 σ9 h10 => ?_)
      obtain ⟨rfl, hS11⟩ := h10
      have g013 := R0.cs h0 hC hS11.cs
      have gW14 := RW.cs hW hC hS11.cs
      have gX15 := RX'.cs hTx hS11.cs
      exact r_ireturn hX hQ dX9_told_115 ⟨Nat.le_of_ble_eq_true rfl, Nat.le_of_ble_eq_true rfl⟩ (PI.mk ⟨by rw [oTold, if_pos c1, if_neg (by decide), if_neg (by decide), if_neg (by decide), if_neg (by decide), if_neg (by decide), if_pos rfl, nI_clamp (by omega)], (Cs.tr (Cs.rf σ) hS11.cs)⟩)
    by_cases e16 : wh = nI 6
    · skip
      subst e16
      refine r_tabInN (v := 6) hX 116 dX9_told_20 (by decide) (by decide) (by decide) 96 rfl (by decide) ?_
      refine r_aload_n hX dX9_told_116 rfl ?_
      refine r_iload_n hX dX9_told_117 rfl ?_
      refine r_callVF (As := [.int (nI w)]) (rest := []) hX (c_X8_saysOf 200 hC σ A hW hV w (by omega)) dX9_told_118 cb_X9_153 (hC.1 4 (7, 0) rfl) rfl rfl ⟨Nat.le_of_ble_eq_true rfl, Nat.le_of_ble_eq_true rfl⟩ ⟨Nat.le_of_ble_eq_true rfl, Nat.le_of_ble_eq_true rfl⟩ (Nat.le_of_ble_eq_true rfl) ?_
      exact r_ireturn hX hQ dX9_told_121 ⟨Nat.le_of_ble_eq_true rfl, Nat.le_of_ble_eq_true rfl⟩ (PI.mk ⟨by rw [oTold, if_pos c1, if_neg (by decide), if_neg (by decide), if_neg (by decide), if_neg (by decide), if_neg (by decide), if_neg (by decide), if_pos rfl, nI_clamp (by omega)], (Cs.rf σ)⟩)
    by_cases e17 : wh = nI 7
    · skip
      subst e17
      refine r_tabInN (v := 7) hX 122 dX9_told_20 (by decide) (by decide) (by decide) 102 rfl (by decide) ?_
      refine r_aload_n hX dX9_told_122 rfl ?_
      refine r_getR hX dX9_told_123 fl_X9_10 (hA.1 100 (8, 0) rfl) rfl (hA.2.1 100 0 200 rfl) ?_
      refine r_iload_n hX dX9_told_126 rfl ?_
      refine r_callVI (As := [.int (nI w)]) (rest := []) hX (c_X3_signOf 200 hC σ A h0 hW hTx hV w (by omega)) dX9_told_127 cb_X9_156 (hC.1 0 (2, 0) rfl) rfl rfl ⟨Nat.le_of_ble_eq_true rfl, Nat.le_of_ble_eq_true rfl⟩ ⟨Nat.le_of_ble_eq_true rfl, Nat.le_of_ble_eq_true rfl⟩ (Nat.le_of_ble_eq_true rfl) (fun r18 σ19 h20 => ?_)
      obtain ⟨rfl, hS21⟩ := h20
      have g023 := R0.cs h0 hC hS21.cs
      have gW24 := RW.cs hW hC hS21.cs
      have gX25 := RX'.cs hTx hS21.cs
      exact r_ireturn hX hQ dX9_told_130 ⟨Nat.le_of_ble_eq_true rfl, Nat.le_of_ble_eq_true rfl⟩ (PI.mk ⟨by rw [oTold, if_pos c1, if_neg (by decide), if_neg (by decide), if_neg (by decide), if_neg (by decide), if_neg (by decide), if_neg (by decide), if_neg (by decide), if_pos rfl, nI_clamp (by omega)], (Cs.tr (Cs.rf σ) hS21.cs)⟩)
    by_cases e26 : wh = nI 8
    · skip
      subst e26
      refine r_tabInN (v := 8) hX 131 dX9_told_20 (by decide) (by decide) (by decide) 111 rfl (by decide) ?_
      refine r_aload_n hX dX9_told_131 rfl ?_
      refine r_getR hX dX9_told_132 fl_X9_135 (hC.1 4 (7, 0) rfl) rfl (hC.2.1 4 1 9 rfl) ?_
      refine r_iload_n hX dX9_told_135 rfl ?_
      refine r_aldN hX dX9_told_136 (hC.1 9 (10, 24) rfl) (by decide) (by omega) (nI (aF A w 0)) (hW.2.1 w (by omega)) ?_
      refine r_callSF (As := [.int (nI (aF A w 0))]) (rest := []) hX (by rw [hl, hD]; exact c_X1_isTrue ka hK σ (aF A w 0) (by omega)) dX9_told_137 cb_X9_159 rfl rfl ⟨Nat.le_of_ble_eq_true rfl, Nat.le_of_ble_eq_true rfl⟩ ⟨Nat.le_of_ble_eq_true rfl, Nat.le_of_ble_eq_true rfl⟩ (Nat.le_of_ble_eq_true rfl) ?_
      refine r_ifB_eq hX dX9_told_140 (fun c27 => ?_) (fun c27 => ?_)
      · skip
        refine r_iconst hX (nI 0) dX9_told_147 rfl ?_
        exact r_ireturn hX hQ dX9_told_148 ⟨Nat.le_of_ble_eq_true rfl, Nat.le_of_ble_eq_true rfl⟩ (PI.mk ⟨by rw [oTold, if_pos c1, if_neg (by decide), if_neg (by decide), if_neg (by decide), if_neg (by decide), if_neg (by decide), if_neg (by decide), if_neg (by decide), if_neg (by decide), if_pos rfl, nI_clamp (by omega), c27]; rfl, (Cs.rf σ)⟩)
      · skip
        refine r_iconst hX (nI 1) dX9_told_143 rfl ?_
        refine r_goto hX dX9_told_144 ?_
        exact r_ireturn hX hQ dX9_told_148 ⟨Nat.le_of_ble_eq_true rfl, Nat.le_of_ble_eq_true rfl⟩ (PI.mk ⟨by rw [oTold, if_pos c1, if_neg (by decide), if_neg (by decide), if_neg (by decide), if_neg (by decide), if_neg (by decide), if_neg (by decide), if_neg (by decide), if_neg (by decide), if_pos rfl, nI_clamp (by omega), c27]; rfl, (Cs.rf σ)⟩)
    refine r_tabOut hX 149 dX9_told_20 (by have := ne_toInt (by decide) e2; have := ne_toInt (by decide) e3; have := ne_toInt (by decide) e4; have := ne_toInt (by decide) e5; have := ne_toInt (by decide) e6; have := ne_toInt (by decide) e7; have := ne_toInt (by decide) e16; have := ne_toInt (by decide) e17; have := ne_toInt (by decide) e26; omega) (by decide) ?_
    refine r_ldc hX dX9_told_149 ko_X9_75 ?_
    exact r_ireturn hX hQ dX9_told_151 ⟨Nat.le_of_ble_eq_true rfl, Nat.le_of_ble_eq_true rfl⟩ (PI.mk ⟨by rw [oTold, if_pos c1, if_neg e2, if_neg e3, if_neg e4, if_neg e5, if_neg e6, if_neg e7, if_neg e16, if_neg e17, if_neg e26], (Cs.rf σ)⟩)
  · skip
    refine r_ldc hX dX9_told_8 ko_X9_75 ?_
    exact r_ireturn hX hQ dX9_told_10 ⟨Nat.le_of_ble_eq_true rfl, Nat.le_of_ble_eq_true rfl⟩ (PI.mk ⟨by rw [oTold, if_neg (by rw [c1]; decide)], (Cs.rf σ)⟩)

set_option maxHeartbeats 4000000 in
set_option maxRecDepth 100000 in
theorem c_X9_as {l : Launch} {D : Ds} {L : La}  (ka : Nat) (hK : KS D ka) (hA : CAt L) (σ : Me) (A : Al) (h0 : R0 σ 200 A) (hW : RW σ 200 A) (hTx : RX' L σ 200 A) (hV : Va A) (wo kd : Int32) : Ct l yX9_as cX9_as 3 (some .int) { frames := 2, cells := 0, slots := 0, locals := 43 } D L σ [.ref (L.1 100), .int wo, .int kd] (PF L σ (oAs A wo kd)) := by
  refine Ct.of (by decide) (Nat.le_of_ble_eq_true rfl) ?_
  intro X hl hD hnl hX0 hQ
  have hX : Ok X cX9_as RX9 "as" { frames := 2, cells := 0, slots := 0, locals := 43 } (some .int) := hX0
  have hC := hA.2.2
  have hbb := hC.2.2
  have hW24 := hV.2.2.1
  have hT6 := hV.1
  have hN12 := hV.2.1
  have hX14 := hV.2.2.2.1
  show At X L σ 0 0 [(0, .ref (L.1 100)), (1, .int wo), (2, .int kd)] 0 []
  refine r_aload_n hX dX9_as_0 rfl ?_
  refine r_iload_n hX dX9_as_1 rfl ?_
  refine r_callVF (As := [.int wo]) (rest := []) hX (c_X9_isWord hA σ A h0 hW hTx hV wo) dX9_as_2 cb_X9_132 (hA.1 100 (8, 0) rfl) rfl rfl ⟨Nat.le_of_ble_eq_true rfl, Nat.le_of_ble_eq_true rfl⟩ ⟨Nat.le_of_ble_eq_true rfl, Nat.le_of_ble_eq_true rfl⟩ (Nat.le_of_ble_eq_true rfl) ?_
  refine r_ifB_eq hX dX9_as_5 (fun c1 => ?_) (fun c1 => ?_)
  · skip
    refine r_ldc hX dX9_as_15 ko_X9_75 ?_
    exact r_ireturn hX hQ dX9_as_17 ⟨Nat.le_of_ble_eq_true rfl, Nat.le_of_ble_eq_true rfl⟩ (PF.mk (by rw [oAs, if_neg (fun e => by have e := e.1; rw [c1] at e; cases e)]))
  · skip
    obtain ⟨w, hw, rfl⟩ := isB_nat c1 (by omega)
    have hwf := hV.2.2.2.2.2.2.1 w hw
    refine r_iload_n hX dX9_as_8 rfl ?_
    refine r_callSF (As := [.int kd]) (rest := []) hX (c_X9_isKind σ kd) dX9_as_9 cb_X9_119 rfl rfl ⟨Nat.le_of_ble_eq_true rfl, Nat.le_of_ble_eq_true rfl⟩ ⟨Nat.le_of_ble_eq_true rfl, Nat.le_of_ble_eq_true rfl⟩ (Nat.le_of_ble_eq_true rfl) ?_
    refine r_ifB_ne hX dX9_as_12 (fun c2 => ?_) (fun c2 => ?_)
    · skip
      obtain ⟨q, hql, hq, rfl⟩ := inB_nat c2 (by decide) (by decide)
      refine r_aload_n hX dX9_as_18 rfl ?_
      refine r_getR hX dX9_as_19 fl_X9_10 (hA.1 100 (8, 0) rfl) rfl (hA.2.1 100 0 200 rfl) ?_
      refine r_getR hX dX9_as_22 fl_X9_86 (hC.1 0 (2, 0) rfl) rfl (hC.2.1 0 5 4 rfl) ?_
      refine r_getR hX dX9_as_25 fl_X9_135 (hC.1 4 (7, 0) rfl) rfl (hC.2.1 4 1 9 rfl) ?_
      refine r_iload_n hX dX9_as_28 rfl ?_
      refine r_aldN hX dX9_as_29 (hC.1 9 (10, 24) rfl) (by decide) (by omega) (nI (aF A w 0)) (hW.2.1 w (by omega)) ?_
      refine r_iload_n hX dX9_as_30 rfl ?_
      refine r_callSF (As := [.int (nI (aF A w 0)), .int (nI q)]) (rest := []) hX (by rw [hl, hD]; exact c_X1_isUnder ka hK σ (aF A w 0) q (by omega) (by omega)) dX9_as_31 cb_X9_164 rfl rfl ⟨Nat.le_of_ble_eq_true rfl, Nat.le_of_ble_eq_true rfl⟩ ⟨Nat.le_of_ble_eq_true rfl, Nat.le_of_ble_eq_true rfl⟩ (Nat.le_of_ble_eq_true rfl) ?_
      refine r_ifB_eq hX dX9_as_34 (fun c3 => ?_) (fun c3 => ?_)
      · skip
        refine r_ldc hX dX9_as_52 ko_X9_168 ?_
        exact r_ireturn hX hQ dX9_as_54 ⟨Nat.le_of_ble_eq_true rfl, Nat.le_of_ble_eq_true rfl⟩ (PF.mk (by rw [oAs, if_pos ⟨c1, c2⟩, nI_clamp (by omega), nI_clamp (by omega), if_neg (by rw [c3]; decide)]))
      · skip
        refine r_aload_n hX dX9_as_37 rfl ?_
        refine r_getR hX dX9_as_38 fl_X9_10 (hA.1 100 (8, 0) rfl) rfl (hA.2.1 100 0 200 rfl) ?_
        refine r_getR hX dX9_as_41 fl_X9_86 (hC.1 0 (2, 0) rfl) rfl (hC.2.1 0 5 4 rfl) ?_
        refine r_getR hX dX9_as_44 fl_X9_147 (hC.1 4 (7, 0) rfl) rfl (hC.2.1 4 5 13 rfl) ?_
        refine r_iload_n hX dX9_as_47 rfl ?_
        refine r_aldN hX dX9_as_48 (hC.1 13 (10, 24) rfl) (by decide) (by omega) (nI (aF A w 4)) (hW.2.2.2.2.2 w (by omega)) ?_
        refine r_goto hX dX9_as_49 ?_
        exact r_ireturn hX hQ dX9_as_54 ⟨Nat.le_of_ble_eq_true rfl, Nat.le_of_ble_eq_true rfl⟩ (PF.mk (by rw [oAs, if_pos ⟨c1, c2⟩, nI_clamp (by omega), nI_clamp (by omega), if_pos c3]))
    · skip
      refine r_ldc hX dX9_as_15 ko_X9_75 ?_
      exact r_ireturn hX hQ dX9_as_17 ⟨Nat.le_of_ble_eq_true rfl, Nat.le_of_ble_eq_true rfl⟩ (PF.mk (by rw [oAs, if_neg (fun e => by have e := e.2; rw [c2] at e; cases e)]))

set_option maxHeartbeats 4000000 in
set_option maxRecDepth 100000 in
theorem c_X9_turns {l : Launch} {D : Ds} {L : La}  (hA : CAt L) (σ : Me) (A : Al) (h0 : R0 σ 200 A) (hW : RW σ 200 A) (hTx : RX' L σ 200 A) (hV : Va A) (wo v : Int32) : Ct l yX9_turns cX9_turns 4 (some .int) { frames := 2, cells := 0, slots := 0, locals := 43 } D L σ [.ref (L.1 100), .int wo, .int v] (PI L (fun r σ2 => r = (oTurns A wo v).1 ∧ RC L σ2 200 (oTurns A wo v).2 ∧ Cb 200 σ σ2)) := by
  refine Ct.of (by decide) (Nat.le_of_ble_eq_true rfl) ?_
  intro X hl hD hnl hX0 hQ
  have hX : Ok X cX9_turns RX9 "turns" { frames := 2, cells := 0, slots := 0, locals := 43 } (some .int) := hX0
  have hN3 : 3 < xn X := by rw [hnl]; decide
  have hC := hA.2.2
  have hbb := hC.2.2
  have hW24 := hV.2.2.1
  have hT6 := hV.1
  have hN12 := hV.2.1
  have hX14 := hV.2.2.2.1
  show At X L σ 0 0 [(0, .ref (L.1 100)), (1, .int wo), (2, .int v)] 0 []
  refine r_aload_n hX dX9_turns_0 rfl ?_
  refine r_iload_n hX dX9_turns_1 rfl ?_
  refine r_callVF (As := [.int wo]) (rest := []) hX (c_X9_isWord hA σ A h0 hW hTx hV wo) dX9_turns_2 cb_X9_132 (hA.1 100 (8, 0) rfl) rfl rfl ⟨Nat.le_of_ble_eq_true rfl, Nat.le_of_ble_eq_true rfl⟩ ⟨Nat.le_of_ble_eq_true rfl, Nat.le_of_ble_eq_true rfl⟩ (Nat.le_of_ble_eq_true rfl) ?_
  refine r_ifB_eq hX dX9_turns_5 (fun c1 => ?_) (fun c1 => ?_)
  · skip
    refine r_ldc hX dX9_turns_15 ko_X9_75 ?_
    exact r_ireturn hX hQ dX9_turns_17 ⟨Nat.le_of_ble_eq_true rfl, Nat.le_of_ble_eq_true rfl⟩ (PI.mk (by rw [oTurns, if_neg (fun e => by have e := e.1; rw [c1] at e; cases e)]; exact ⟨rfl, ⟨h0, hW, hTx⟩, (Cb.rf 200 σ)⟩))
  · skip
    obtain ⟨w, hw, rfl⟩ := isB_nat c1 (by omega)
    refine r_iload_n hX dX9_turns_8 rfl ?_
    refine r_callSF (As := [.int v]) (rest := []) hX (c_X9_isKind σ v) dX9_turns_9 cb_X9_119 rfl rfl ⟨Nat.le_of_ble_eq_true rfl, Nat.le_of_ble_eq_true rfl⟩ ⟨Nat.le_of_ble_eq_true rfl, Nat.le_of_ble_eq_true rfl⟩ (Nat.le_of_ble_eq_true rfl) ?_
    refine r_ifB_ne hX dX9_turns_12 (fun c2 => ?_) (fun c2 => ?_)
    · skip
      obtain ⟨q, hql, hq, rfl⟩ := inB_nat c2 (by decide) (by decide)
      refine r_aload_n hX dX9_turns_18 rfl ?_
      refine r_getR hX dX9_turns_19 fl_X9_10 (hA.1 100 (8, 0) rfl) rfl (hA.2.1 100 0 200 rfl) ?_
      refine r_getR hX dX9_turns_22 fl_X9_86 (hC.1 0 (2, 0) rfl) rfl (hC.2.1 0 5 4 rfl) ?_
      refine r_getR hX dX9_turns_25 fl_X9_135 (hC.1 4 (7, 0) rfl) rfl (hC.2.1 4 1 9 rfl) ?_
      refine r_iload_n hX dX9_turns_28 rfl ?_
      refine r_aldN hX dX9_turns_29 (hC.1 9 (10, 24) rfl) (by decide) (by omega) (nI (aF A w 0)) (hW.2.1 w (by omega)) ?_
      refine r_istore_n hX [(0, .ref (L.1 100)), (1, .int (nI w)), (2, .int (nI q)), (3, .int (nI (aF A w 0)))] dX9_turns_30 hN3 rfl ?_
      refine r_aload_n hX dX9_turns_31 rfl ?_
      refine r_getR hX dX9_turns_32 fl_X9_10 (hA.1 100 (8, 0) rfl) rfl (hA.2.1 100 0 200 rfl) ?_
      refine r_getR hX dX9_turns_35 fl_X9_86 (hC.1 0 (2, 0) rfl) rfl (hC.2.1 0 5 4 rfl) ?_
      refine r_getR hX dX9_turns_38 fl_X9_135 (hC.1 4 (7, 0) rfl) rfl (hC.2.1 4 1 9 rfl) ?_
      refine r_iload_n hX dX9_turns_41 rfl ?_
      refine r_iload_n hX dX9_turns_42 rfl ?_
      refine r_astN hX dX9_turns_43 (hC.1 9 (10, 24) rfl) (by decide) (by omega) ?_
      refine r_iload_n hX dX9_turns_44 rfl ?_
      exact r_ireturn hX hQ dX9_turns_45 ⟨Nat.le_of_ble_eq_true rfl, Nat.le_of_ble_eq_true rfl⟩ (PI.mk (by rw [oTurns, if_pos ⟨c1, c2⟩, nI_clamp (by omega), nI_clamp (by omega)]; exact ⟨rfl, RC.wf ⟨h0, hW, hTx⟩ (by omega) (rw_setF (f := 0) hW (by decide) hw) (Wf.up (Wf.rf 200 σ) (by omega)) rfl rfl rfl rfl rfl rfl rfl, (Cb.up (Cb.rf 200 σ) (by omega))⟩))
    · skip
      refine r_ldc hX dX9_turns_15 ko_X9_75 ?_
      exact r_ireturn hX hQ dX9_turns_17 ⟨Nat.le_of_ble_eq_true rfl, Nat.le_of_ble_eq_true rfl⟩ (PI.mk (by rw [oTurns, if_neg (fun e => by have e := e.2; rw [c2] at e; cases e)]; exact ⟨rfl, ⟨h0, hW, hTx⟩, (Cb.rf 200 σ)⟩))

set_option maxHeartbeats 4000000 in
set_option maxRecDepth 100000 in
theorem c_X9_star {l : Launch} {D : Ds} {L : La}  (hA : CAt L) (σ : Me) (A : Al) (h0 : R0 σ 200 A) (hW : RW σ 200 A) (hTx : RX' L σ 200 A) (hV : Va A) (wo v : Int32) : Ct l yX9_star cX9_star 4 (some .int) { frames := 2, cells := 0, slots := 0, locals := 43 } D L σ [.ref (L.1 100), .int wo, .int v] (PI L (fun r σ2 => r = (oStar A wo v).1 ∧ RC L σ2 200 (oStar A wo v).2 ∧ Cb 200 σ σ2)) := by
  refine Ct.of (by decide) (Nat.le_of_ble_eq_true rfl) ?_
  intro X hl hD hnl hX0 hQ
  have hX : Ok X cX9_star RX9 "star" { frames := 2, cells := 0, slots := 0, locals := 43 } (some .int) := hX0
  have hN3 : 3 < xn X := by rw [hnl]; decide
  have hC := hA.2.2
  have hbb := hC.2.2
  have hW24 := hV.2.2.1
  have hT6 := hV.1
  have hN12 := hV.2.1
  have hX14 := hV.2.2.2.1
  show At X L σ 0 0 [(0, .ref (L.1 100)), (1, .int wo), (2, .int v)] 0 []
  refine r_aload_n hX dX9_star_0 rfl ?_
  refine r_iload_n hX dX9_star_1 rfl ?_
  refine r_callVF (As := [.int wo]) (rest := []) hX (c_X9_isWord hA σ A h0 hW hTx hV wo) dX9_star_2 cb_X9_132 (hA.1 100 (8, 0) rfl) rfl rfl ⟨Nat.le_of_ble_eq_true rfl, Nat.le_of_ble_eq_true rfl⟩ ⟨Nat.le_of_ble_eq_true rfl, Nat.le_of_ble_eq_true rfl⟩ (Nat.le_of_ble_eq_true rfl) ?_
  refine r_ifB_eq hX dX9_star_5 (fun c1 => ?_) (fun c1 => ?_)
  · skip
    refine r_ldc hX dX9_star_15 ko_X9_75 ?_
    exact r_ireturn hX hQ dX9_star_17 ⟨Nat.le_of_ble_eq_true rfl, Nat.le_of_ble_eq_true rfl⟩ (PI.mk (by rw [oStar, if_neg (fun e => by have e := e.1; rw [c1] at e; cases e)]; exact ⟨rfl, ⟨h0, hW, hTx⟩, (Cb.rf 200 σ)⟩))
  · skip
    obtain ⟨w, hw, rfl⟩ := isB_nat c1 (by omega)
    refine r_iload_n hX dX9_star_8 rfl ?_
    refine r_callSF (As := [.int v]) (rest := []) hX (c_X9_isStars σ v) dX9_star_9 cb_X9_169 rfl rfl ⟨Nat.le_of_ble_eq_true rfl, Nat.le_of_ble_eq_true rfl⟩ ⟨Nat.le_of_ble_eq_true rfl, Nat.le_of_ble_eq_true rfl⟩ (Nat.le_of_ble_eq_true rfl) ?_
    refine r_ifB_ne hX dX9_star_12 (fun c2 => ?_) (fun c2 => ?_)
    · skip
      obtain ⟨q, hql, hq, rfl⟩ := inB_nat c2 (by decide) (by decide)
      refine r_aload_n hX dX9_star_18 rfl ?_
      refine r_getR hX dX9_star_19 fl_X9_10 (hA.1 100 (8, 0) rfl) rfl (hA.2.1 100 0 200 rfl) ?_
      refine r_getR hX dX9_star_22 fl_X9_86 (hC.1 0 (2, 0) rfl) rfl (hC.2.1 0 5 4 rfl) ?_
      refine r_getR hX dX9_star_25 fl_X9_147 (hC.1 4 (7, 0) rfl) rfl (hC.2.1 4 5 13 rfl) ?_
      refine r_iload_n hX dX9_star_28 rfl ?_
      refine r_aldN hX dX9_star_29 (hC.1 13 (10, 24) rfl) (by decide) (by omega) (nI (aF A w 4)) (hW.2.2.2.2.2 w (by omega)) ?_
      refine r_istore_n hX [(0, .ref (L.1 100)), (1, .int (nI w)), (2, .int (nI q)), (3, .int (nI (aF A w 4)))] dX9_star_30 hN3 rfl ?_
      refine r_aload_n hX dX9_star_31 rfl ?_
      refine r_getR hX dX9_star_32 fl_X9_10 (hA.1 100 (8, 0) rfl) rfl (hA.2.1 100 0 200 rfl) ?_
      refine r_getR hX dX9_star_35 fl_X9_86 (hC.1 0 (2, 0) rfl) rfl (hC.2.1 0 5 4 rfl) ?_
      refine r_getR hX dX9_star_38 fl_X9_147 (hC.1 4 (7, 0) rfl) rfl (hC.2.1 4 5 13 rfl) ?_
      refine r_iload_n hX dX9_star_41 rfl ?_
      refine r_iload_n hX dX9_star_42 rfl ?_
      refine r_astN hX dX9_star_43 (hC.1 13 (10, 24) rfl) (by decide) (by omega) ?_
      refine r_iload_n hX dX9_star_44 rfl ?_
      exact r_ireturn hX hQ dX9_star_45 ⟨Nat.le_of_ble_eq_true rfl, Nat.le_of_ble_eq_true rfl⟩ (PI.mk (by rw [oStar, if_pos ⟨c1, c2⟩, nI_clamp (by omega), nI_clamp (by omega)]; exact ⟨rfl, RC.wf ⟨h0, hW, hTx⟩ (by omega) (rw_setF (f := 4) hW (by decide) hw) (Wf.up (Wf.rf 200 σ) (by omega)) rfl rfl rfl rfl rfl rfl rfl, (Cb.up (Cb.rf 200 σ) (by omega))⟩))
    · skip
      refine r_ldc hX dX9_star_15 ko_X9_75 ?_
      exact r_ireturn hX hQ dX9_star_17 ⟨Nat.le_of_ble_eq_true rfl, Nat.le_of_ble_eq_true rfl⟩ (PI.mk (by rw [oStar, if_neg (fun e => by have e := e.2; rw [c2] at e; cases e)]; exact ⟨rfl, ⟨h0, hW, hTx⟩, (Cb.rf 200 σ)⟩))

set_option maxHeartbeats 4000000 in
set_option maxRecDepth 100000 in
theorem c_X9_drop {l : Launch} {D : Ds} {L : La}  (hA : CAt L) (σ : Me) (A : Al) (h0 : R0 σ 200 A) (hW : RW σ 200 A) (hTx : RX' L σ 200 A) (hV : Va A) (wo : Int32) : Ct l yX9_drop cX9_drop 2 (some .int) { frames := 2, cells := 0, slots := 0, locals := 44 } D L σ [.ref (L.1 100), .int wo] (PI L (fun r σ2 => r = (oDrop A wo).1 ∧ RC L σ2 200 (oDrop A wo).2 ∧ Cb 200 σ σ2)) := by
  refine Ct.of (by decide) (Nat.le_of_ble_eq_true rfl) ?_
  intro X hl hD hnl hX0 hQ
  have hX : Ok X cX9_drop RX9 "drop" { frames := 2, cells := 0, slots := 0, locals := 44 } (some .int) := hX0
  have hC := hA.2.2
  have hbb := hC.2.2
  have hW24 := hV.2.2.1
  have hT6 := hV.1
  have hN12 := hV.2.1
  have hX14 := hV.2.2.2.1
  show At X L σ 0 0 [(0, .ref (L.1 100)), (1, .int wo)] 0 []
  refine r_aload_n hX dX9_drop_0 rfl ?_
  refine r_iload_n hX dX9_drop_1 rfl ?_
  refine r_callVF (As := [.int wo]) (rest := []) hX (c_X9_isWord hA σ A h0 hW hTx hV wo) dX9_drop_2 cb_X9_132 (hA.1 100 (8, 0) rfl) rfl rfl ⟨Nat.le_of_ble_eq_true rfl, Nat.le_of_ble_eq_true rfl⟩ ⟨Nat.le_of_ble_eq_true rfl, Nat.le_of_ble_eq_true rfl⟩ (Nat.le_of_ble_eq_true rfl) ?_
  refine r_ifB_ne hX dX9_drop_5 (fun c1 => ?_) (fun c1 => ?_)
  · skip
    obtain ⟨w, hw, rfl⟩ := isB_nat c1 (by omega)
    refine r_aload_n hX dX9_drop_11 rfl ?_
    refine r_getR hX dX9_drop_12 fl_X9_10 (hA.1 100 (8, 0) rfl) rfl (hA.2.1 100 0 200 rfl) ?_
    refine r_getR hX dX9_drop_15 fl_X9_86 (hC.1 0 (2, 0) rfl) rfl (hC.2.1 0 5 4 rfl) ?_
    refine r_iload_n hX dX9_drop_18 rfl ?_
    refine r_callVV (As := [.int (nI w)]) (rest := []) hX (c_X8_remove 200 hC σ A hW hV w (by omega)) dX9_drop_19 cb_X9_172 (hC.1 4 (7, 0) rfl) rfl rfl ⟨Nat.le_of_ble_eq_true rfl, Nat.le_of_ble_eq_true rfl⟩ ⟨Nat.le_of_ble_eq_true rfl, Nat.le_of_ble_eq_true rfl⟩ (Nat.le_of_ble_eq_true rfl) (fun σ2 h3 => ?_)
    obtain ⟨hw4, hf5⟩ := h3
    have hRC6 : RC L σ2 200 (delW A w) := RC.wf ⟨h0, hW, hTx⟩ (by omega) hw4 hf5 rfl rfl rfl rfl rfl rfl rfl
    refine r_aload_n hX dX9_drop_22 rfl ?_
    refine r_getR hX dX9_drop_23 fl_X9_10 (hA.1 100 (8, 0) rfl) rfl (hA.2.1 100 0 200 rfl) ?_
    refine r_getR hX dX9_drop_26 fl_X9_86 (hC.1 0 (2, 0) rfl) rfl (hC.2.1 0 5 4 rfl) ?_
    refine r_getIV hX dX9_drop_29 fl_X9_176 (hC.1 4 (7, 0) rfl) rfl (nI (aW A - 1)) hRC6.2.1.1 ?_
    exact r_ireturn hX hQ dX9_drop_32 ⟨Nat.le_of_ble_eq_true rfl, Nat.le_of_ble_eq_true rfl⟩ (PI.mk (by rw [oDrop, if_pos c1, nI_clamp (by omega)]; exact ⟨rfl, hRC6, (Cb.tr (Cb.rf 200 σ) hf5.cb)⟩))
  · skip
    refine r_ldc hX dX9_drop_8 ko_X9_75 ?_
    exact r_ireturn hX hQ dX9_drop_10 ⟨Nat.le_of_ble_eq_true rfl, Nat.le_of_ble_eq_true rfl⟩ (PI.mk (by rw [oDrop, if_neg (by rw [c1]; decide)]; exact ⟨rfl, ⟨h0, hW, hTx⟩, (Cb.rf 200 σ)⟩))

set_option maxHeartbeats 4000000 in
set_option maxRecDepth 100000 in
theorem c_X9_mean {l : Launch} {D : Ds} {L : La}  (hA : CAt L) (σ : Me) (A : Al) (h0 : R0 σ 200 A) (hW : RW σ 200 A) (hTx : RX' L σ 200 A) (hV : Va A) (th wh : Int32) : Ct l yX9_mean cX9_mean 3 (some .int) { frames := 4, cells := 0, slots := 0, locals := 100 } D L σ [.ref (L.1 100), .int th, .int wh] (PI L (fun r σ2 => r = oMean A th wh ∧ Cs σ σ2)) := by
  refine Ct.of (by decide) (Nat.le_of_ble_eq_true rfl) ?_
  intro X hl hD hnl hX0 hQ
  have hX : Ok X cX9_mean RX9 "mean" { frames := 4, cells := 0, slots := 0, locals := 100 } (some .int) := hX0
  have hC := hA.2.2
  have hbb := hC.2.2
  have hW24 := hV.2.2.1
  have hT6 := hV.1
  have hN12 := hV.2.1
  have hX14 := hV.2.2.2.1
  show At X L σ 0 0 [(0, .ref (L.1 100)), (1, .int th), (2, .int wh)] 0 []
  refine r_aload_n hX dX9_mean_0 rfl ?_
  refine r_iload_n hX dX9_mean_1 rfl ?_
  refine r_callVF (As := [.int th]) (rest := []) hX (c_X9_isThing hA σ A h0 hW hTx hV th) dX9_mean_2 cb_X9_76 (hA.1 100 (8, 0) rfl) rfl rfl ⟨Nat.le_of_ble_eq_true rfl, Nat.le_of_ble_eq_true rfl⟩ ⟨Nat.le_of_ble_eq_true rfl, Nat.le_of_ble_eq_true rfl⟩ (Nat.le_of_ble_eq_true rfl) ?_
  refine r_ifB_ne hX dX9_mean_5 (fun c1 => ?_) (fun c1 => ?_)
  · skip
    obtain ⟨t, ht, rfl⟩ := isB_nat c1 (by omega)
    refine r_iload_n hX dX9_mean_11 rfl ?_
    by_cases e2 : wh = nI 0
    · skip
      subst e2
      refine r_tabInN (v := 0) hX 52 dX9_mean_12 (by decide) (by decide) (by decide) 40 rfl (by decide) ?_
      refine r_aload_n hX dX9_mean_52 rfl ?_
      refine r_getR hX dX9_mean_53 fl_X9_10 (hA.1 100 (8, 0) rfl) rfl (hA.2.1 100 0 200 rfl) ?_
      refine r_getR hX dX9_mean_56 fl_X9_86 (hC.1 0 (2, 0) rfl) rfl (hC.2.1 0 5 4 rfl) ?_
      refine r_iload_n hX dX9_mean_59 rfl ?_
      refine r_callVF (As := [.int (nI t)]) (rest := []) hX (c_X8_meanOf 200 hC σ A hW hV t (by omega)) dX9_mean_60 cb_X9_179 (hC.1 4 (7, 0) rfl) rfl rfl ⟨Nat.le_of_ble_eq_true rfl, Nat.le_of_ble_eq_true rfl⟩ ⟨Nat.le_of_ble_eq_true rfl, Nat.le_of_ble_eq_true rfl⟩ (Nat.le_of_ble_eq_true rfl) ?_
      exact r_ireturn hX hQ dX9_mean_63 ⟨Nat.le_of_ble_eq_true rfl, Nat.le_of_ble_eq_true rfl⟩ (PI.mk ⟨by rw [oMean, if_pos c1, if_pos rfl, nI_clamp (by omega)], (Cs.rf σ)⟩)
    by_cases e3 : wh = nI 1
    · skip
      subst e3
      refine r_tabInN (v := 1) hX 64 dX9_mean_12 (by decide) (by decide) (by decide) 52 rfl (by decide) ?_
      refine r_aload_n hX dX9_mean_64 rfl ?_
      refine r_getR hX dX9_mean_65 fl_X9_10 (hA.1 100 (8, 0) rfl) rfl (hA.2.1 100 0 200 rfl) ?_
      refine r_iload_n hX dX9_mean_68 rfl ?_
      refine r_iconst hX (nI 1) dX9_mean_69 rfl ?_
      refine r_callVI (As := [.int (nI t), .int (nI 1)]) (rest := []) hX (c_X3_weighedOf 200 hC σ A h0 hW hTx hV t 1 (by omega) (by decide)) dX9_mean_70 cb_X9_182 (hC.1 0 (2, 0) rfl) rfl rfl ⟨Nat.le_of_ble_eq_true rfl, Nat.le_of_ble_eq_true rfl⟩ ⟨Nat.le_of_ble_eq_true rfl, Nat.le_of_ble_eq_true rfl⟩ (Nat.le_of_ble_eq_true rfl) (fun r4 σ5 h6 => ?_)
      obtain ⟨rfl, hS7⟩ := h6
      have g09 := R0.cs h0 hC hS7.cs
      have gW10 := RW.cs hW hC hS7.cs
      have gX11 := RX'.cs hTx hS7.cs
      exact r_ireturn hX hQ dX9_mean_73 ⟨Nat.le_of_ble_eq_true rfl, Nat.le_of_ble_eq_true rfl⟩ (PI.mk ⟨by show wdI A t = _; rw [oMean, if_pos c1, if_neg (by decide), if_pos rfl, nI_clamp (by omega)], (Cs.tr (Cs.rf σ) hS7.cs)⟩)
    by_cases e12 : wh = nI 2
    · skip
      subst e12
      refine r_tabInN (v := 2) hX 74 dX9_mean_12 (by decide) (by decide) (by decide) 62 rfl (by decide) ?_
      refine r_aload_n hX dX9_mean_74 rfl ?_
      refine r_getR hX dX9_mean_75 fl_X9_10 (hA.1 100 (8, 0) rfl) rfl (hA.2.1 100 0 200 rfl) ?_
      refine r_iload_n hX dX9_mean_78 rfl ?_
      refine r_iconst hX (nI 0) dX9_mean_79 rfl ?_
      refine r_callVI (As := [.int (nI t), .int (nI 0)]) (rest := []) hX (c_X3_weighedOf 200 hC σ A h0 hW hTx hV t 0 (by omega) (by decide)) dX9_mean_80 cb_X9_182 (hC.1 0 (2, 0) rfl) rfl rfl ⟨Nat.le_of_ble_eq_true rfl, Nat.le_of_ble_eq_true rfl⟩ ⟨Nat.le_of_ble_eq_true rfl, Nat.le_of_ble_eq_true rfl⟩ (Nat.le_of_ble_eq_true rfl) (fun r13 σ14 h15 => ?_)
      obtain ⟨rfl, hS16⟩ := h15
      have g018 := R0.cs h0 hC hS16.cs
      have gW19 := RW.cs hW hC hS16.cs
      have gX20 := RX'.cs hTx hS16.cs
      exact r_ireturn hX hQ dX9_mean_83 ⟨Nat.le_of_ble_eq_true rfl, Nat.le_of_ble_eq_true rfl⟩ (PI.mk ⟨by show gdI A t = _; rw [oMean, if_pos c1, if_neg (by decide), if_neg (by decide), if_pos rfl, nI_clamp (by omega)], (Cs.tr (Cs.rf σ) hS16.cs)⟩)
    by_cases e21 : wh = nI 3
    · skip
      subst e21
      refine r_tabInN (v := 3) hX 84 dX9_mean_12 (by decide) (by decide) (by decide) 72 rfl (by decide) ?_
      refine r_aload_n hX dX9_mean_84 rfl ?_
      refine r_getR hX dX9_mean_85 fl_X9_10 (hA.1 100 (8, 0) rfl) rfl (hA.2.1 100 0 200 rfl) ?_
      refine r_iload_n hX dX9_mean_88 rfl ?_
      refine r_iconst hX (nI 0) dX9_mean_89 rfl ?_
      refine r_callVF (As := [.int (nI t), .int (nI 0)]) (rest := []) hX (c_X3_spanOf 200 hC σ A h0 hW hTx hV t 0 (by omega) (by decide)) dX9_mean_90 cb_X9_186 (hC.1 0 (2, 0) rfl) rfl rfl ⟨Nat.le_of_ble_eq_true rfl, Nat.le_of_ble_eq_true rfl⟩ ⟨Nat.le_of_ble_eq_true rfl, Nat.le_of_ble_eq_true rfl⟩ (Nat.le_of_ble_eq_true rfl) ?_
      exact r_ireturn hX hQ dX9_mean_93 ⟨Nat.le_of_ble_eq_true rfl, Nat.le_of_ble_eq_true rfl⟩ (PI.mk ⟨by rw [oMean, if_pos c1, if_neg (by decide), if_neg (by decide), if_neg (by decide), if_pos rfl, nI_clamp (by omega)], (Cs.rf σ)⟩)
    by_cases e22 : wh = nI 4
    · skip
      subst e22
      refine r_tabInN (v := 4) hX 94 dX9_mean_12 (by decide) (by decide) (by decide) 82 rfl (by decide) ?_
      refine r_aload_n hX dX9_mean_94 rfl ?_
      refine r_getR hX dX9_mean_95 fl_X9_10 (hA.1 100 (8, 0) rfl) rfl (hA.2.1 100 0 200 rfl) ?_
      refine r_iload_n hX dX9_mean_98 rfl ?_
      refine r_iconst hX (nI 1) dX9_mean_99 rfl ?_
      refine r_callVF (As := [.int (nI t), .int (nI 1)]) (rest := []) hX (c_X3_spanOf 200 hC σ A h0 hW hTx hV t 1 (by omega) (by decide)) dX9_mean_100 cb_X9_186 (hC.1 0 (2, 0) rfl) rfl rfl ⟨Nat.le_of_ble_eq_true rfl, Nat.le_of_ble_eq_true rfl⟩ ⟨Nat.le_of_ble_eq_true rfl, Nat.le_of_ble_eq_true rfl⟩ (Nat.le_of_ble_eq_true rfl) ?_
      exact r_ireturn hX hQ dX9_mean_103 ⟨Nat.le_of_ble_eq_true rfl, Nat.le_of_ble_eq_true rfl⟩ (PI.mk ⟨by rw [oMean, if_pos c1, if_neg (by decide), if_neg (by decide), if_neg (by decide), if_neg (by decide), if_pos rfl, nI_clamp (by omega)], (Cs.rf σ)⟩)
    by_cases e23 : wh = nI 5
    · skip
      subst e23
      refine r_tabInN (v := 5) hX 104 dX9_mean_12 (by decide) (by decide) (by decide) 92 rfl (by decide) ?_
      refine r_aload_n hX dX9_mean_104 rfl ?_
      refine r_getR hX dX9_mean_105 fl_X9_10 (hA.1 100 (8, 0) rfl) rfl (hA.2.1 100 0 200 rfl) ?_
      refine r_getR hX dX9_mean_108 fl_X9_86 (hC.1 0 (2, 0) rfl) rfl (hC.2.1 0 5 4 rfl) ?_
      refine r_iload_n hX dX9_mean_111 rfl ?_
      refine r_callVF (As := [.int (nI t)]) (rest := []) hX (c_X8_starWorthOf 200 hC σ A hW hV t (by omega)) dX9_mean_112 cb_X9_189 (hC.1 4 (7, 0) rfl) rfl rfl ⟨Nat.le_of_ble_eq_true rfl, Nat.le_of_ble_eq_true rfl⟩ ⟨Nat.le_of_ble_eq_true rfl, Nat.le_of_ble_eq_true rfl⟩ (Nat.le_of_ble_eq_true rfl) ?_
      exact r_ireturn hX hQ dX9_mean_115 ⟨Nat.le_of_ble_eq_true rfl, Nat.le_of_ble_eq_true rfl⟩ (PI.mk ⟨by rw [oMean, if_pos c1, if_neg (by decide), if_neg (by decide), if_neg (by decide), if_neg (by decide), if_neg (by decide), if_pos rfl, nI_clamp (by omega)], (Cs.rf σ)⟩)
    refine r_tabOut hX 116 dX9_mean_12 (by have := ne_toInt (by decide) e2; have := ne_toInt (by decide) e3; have := ne_toInt (by decide) e12; have := ne_toInt (by decide) e21; have := ne_toInt (by decide) e22; have := ne_toInt (by decide) e23; omega) (by decide) ?_
    refine r_ldc hX dX9_mean_116 ko_X9_75 ?_
    exact r_ireturn hX hQ dX9_mean_118 ⟨Nat.le_of_ble_eq_true rfl, Nat.le_of_ble_eq_true rfl⟩ (PI.mk ⟨by rw [oMean, if_pos c1, if_neg e2, if_neg e3, if_neg e12, if_neg e21, if_neg e22, if_neg e23], (Cs.rf σ)⟩)
  · skip
    refine r_ldc hX dX9_mean_8 ko_X9_75 ?_
    exact r_ireturn hX hQ dX9_mean_10 ⟨Nat.le_of_ble_eq_true rfl, Nat.le_of_ble_eq_true rfl⟩ (PI.mk ⟨by rw [oMean, if_neg (by rw [c1]; decide)], (Cs.rf σ)⟩)

set_option maxHeartbeats 4000000 in
set_option maxRecDepth 100000 in
theorem c_X9_shelf {l : Launch} {D : Ds} {L : La}  (hA : CAt L) (σ : Me) (A : Al) (h0 : R0 σ 200 A) (hW : RW σ 200 A) (hTx : RX' L σ 200 A) (hV : Va A) (v : Int32) : Ct l yX9_shelf cX9_shelf 2 (some .int) { frames := 5, cells := 0, slots := 0, locals := 123 } D L σ [.ref (L.1 100), .int v] (PI L (fun r σ2 => r = oShelf A v ∧ Cs σ σ2)) := by
  refine Ct.of (by decide) (Nat.le_of_ble_eq_true rfl) ?_
  intro X hl hD hnl hX0 hQ
  have hX : Ok X cX9_shelf RX9 "shelf" { frames := 5, cells := 0, slots := 0, locals := 123 } (some .int) := hX0
  have hC := hA.2.2
  have hbb := hC.2.2
  have hW24 := hV.2.2.1
  have hT6 := hV.1
  have hN12 := hV.2.1
  have hX14 := hV.2.2.2.1
  show At X L σ 0 0 [(0, .ref (L.1 100)), (1, .int v)] 0 []
  refine r_iload_n hX dX9_shelf_0 rfl ?_
  refine r_if_ge hX dX9_shelf_1 (fun c1 => ?_) (fun c1 => ?_)
  · skip
    obtain ⟨p, hp, rfl⟩ := nI_of (x := v) (sgn_ge c1)
    refine r_iload_n hX dX9_shelf_7 rfl ?_
    refine r_aload_n hX dX9_shelf_8 rfl ?_
    refine r_getR hX dX9_shelf_9 fl_X9_10 (hA.1 100 (8, 0) rfl) rfl (hA.2.1 100 0 200 rfl) ?_
    refine r_getIV hX dX9_shelf_12 fl_X9_192 (hC.1 0 (2, 0) rfl) rfl (nI (aT A)) h0.1 ?_
    refine r_icmpN_lt hX dX9_shelf_15 (by omega) (by omega) (fun c2 => ?_) (fun c2 => ?_)
    · skip
      refine r_aload_n hX dX9_shelf_21 rfl ?_
      refine r_getR hX dX9_shelf_22 fl_X9_10 (hA.1 100 (8, 0) rfl) rfl (hA.2.1 100 0 200 rfl) ?_
      refine r_callVV (As := []) (rest := []) hX (c_X3_rank 200 hC σ A h0 hW hTx hV) dX9_shelf_25 cb_X9_95 (hC.1 0 (2, 0) rfl) rfl rfl ⟨Nat.le_of_ble_eq_true rfl, Nat.le_of_ble_eq_true rfl⟩ ⟨Nat.le_of_ble_eq_true rfl, Nat.le_of_ble_eq_true rfl⟩ (Nat.le_of_ble_eq_true rfl) (fun σ3 h4 => ?_)
      obtain ⟨hP6, hS5⟩ := h4
      have g07 := R0.cs h0 hC hS5
      have gW8 := RW.cs hW hC hS5
      have gX9 := RX'.cs hTx hS5
      refine r_aload_n hX dX9_shelf_28 rfl ?_
      refine r_getR hX dX9_shelf_29 fl_X9_10 (hA.1 100 (8, 0) rfl) rfl (hA.2.1 100 0 200 rfl) ?_
      refine r_iload_n hX dX9_shelf_32 rfl ?_
      refine r_callVF (As := [.int (nI p)]) (rest := []) hX (c_X3_atPlace 200 hC σ3 A g07 gW8 gX9 hV (shI A) hP6 p (by omega)) dX9_shelf_33 cb_X9_196 (hC.1 0 (2, 0) rfl) rfl rfl ⟨Nat.le_of_ble_eq_true rfl, Nat.le_of_ble_eq_true rfl⟩ ⟨Nat.le_of_ble_eq_true rfl, Nat.le_of_ble_eq_true rfl⟩ (Nat.le_of_ble_eq_true rfl) ?_
      exact r_ireturn hX hQ dX9_shelf_36 ⟨Nat.le_of_ble_eq_true rfl, Nat.le_of_ble_eq_true rfl⟩ (PI.mk ⟨by rw [oShelf, if_neg (nI_pos hp)], (Cs.tr (Cs.rf σ) hS5)⟩)
    · skip
      refine r_ldc hX dX9_shelf_18 ko_X9_195 ?_
      exact r_ireturn hX hQ dX9_shelf_20 ⟨Nat.le_of_ble_eq_true rfl, Nat.le_of_ble_eq_true rfl⟩ (PI.mk ⟨by rw [oShelf, if_neg (nI_pos hp), shf_big hp (by omega) c2], (Cs.rf σ)⟩)
  · skip
    refine r_ldc hX dX9_shelf_4 ko_X9_75 ?_
    exact r_ireturn hX hQ dX9_shelf_6 ⟨Nat.le_of_ble_eq_true rfl, Nat.le_of_ble_eq_true rfl⟩ (PI.mk ⟨by rw [oShelf, if_pos (Int32.not_le.mp c1)], (Cs.rf σ)⟩)
