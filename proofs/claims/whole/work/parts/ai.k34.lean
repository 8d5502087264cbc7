set_option maxHeartbeats 4000000 in
set_option maxRecDepth 100000 in
theorem c_X9_lay {l : Launch} {D : Ds} {L : La}  (hN : NL D) (hA : CAt L) (σ : Me) (A : Al) (h0 : R0 σ 200 A) (hW : RW σ 200 A) (hTx : RX' L σ 200 A) (hV : Va A) (hWl : Wl L) (B : Bs) (hB : RBc σ B) (Q : Ls) (hS : RSc L σ Q) (hSl : SlC L) (s t k : Int32) : Ct l yX9_lay cX9_lay 6 (some .int) { frames := 3, cells := 2, slots := 27, locals := 81 } D L σ [.ref (L.1 100), .int s, .int t, .int k] (PNI (fun r L2 σ2 => r = (oLay A B Q s t k).1 ∧ RSc L2 σ2 (oLay A B Q s t k).2 ∧ LyP L σ L2 σ2)) := by
  refine Ct.of (by decide) (Nat.le_of_ble_eq_true rfl) ?_
  intro X hl hD hnl hX0 hQ
  have hX : Ok X cX9_lay RX9 "lay" { frames := 3, cells := 2, slots := 27, locals := 81 } (some .int) := hX0
  have hN4 : 4 < xn X := by rw [hnl]; decide
  have hN5 : 5 < xn X := by rw [hnl]; decide
  have hC := hA.2.2
  have hbb := hC.2.2
  have hW24 := hV.2.2.1
  have hT6 := hV.1
  have hN12 := hV.2.1
  have hX14 := hV.2.2.2.1
  have hNx : NL (xD X) := by rw [hD]; exact hN
  show At X L σ 0 0 [(0, .ref (L.1 100)), (1, .int s), (2, .int t), (3, .int k)] 0 []
  refine r_iload_n hX dX9_lay_0 rfl ?_
  refine r_callSF (As := [.int s]) (rest := []) hX (c_X9_isSlot σ s) dX9_lay_1 cb_X9_321 rfl rfl ⟨Nat.le_of_ble_eq_true rfl, Nat.le_of_ble_eq_true rfl⟩ ⟨Nat.le_of_ble_eq_true rfl, Nat.le_of_ble_eq_true rfl⟩ (Nat.le_of_ble_eq_true rfl) ?_
  refine r_ifB_eq hX dX9_lay_4 (fun c1 => ?_) (fun c1 => ?_)
  · skip
    refine r_ldc hX dX9_lay_16 ko_X9_75 ?_
    exact r_ireturn hX hQ dX9_lay_18 ⟨Nat.le_of_ble_eq_true rfl, Nat.le_of_ble_eq_true rfl⟩ (PNI.mk (by rw [lay_b (fun z => by have z := z.1; rw [c1] at z; cases z)]; exact ⟨rfl, hS, ⟨hA, hWl, LX.rf _ L, hSl, fun _ _ _ => rfl⟩⟩))
  · skip
    obtain ⟨q, hql, hq, rfl⟩ := inB_nat c1 (by decide) (by decide)
    have hq3 := (hS q (by omega)).2.1
    refine r_iload_n hX dX9_lay_7 rfl ?_
    refine r_iconst hX (nI 0) dX9_lay_8 rfl ?_
    refine r_iconst hX (nI 3) dX9_lay_9 rfl ?_
    refine r_callSF (As := [.int t, .int (nI 0), .int (nI 3)]) (rest := []) hX (c_X9_within σ t (nI 0) (nI 3)) dX9_lay_10 cb_X9_67 rfl rfl ⟨Nat.le_of_ble_eq_true rfl, Nat.le_of_ble_eq_true rfl⟩ ⟨Nat.le_of_ble_eq_true rfl, Nat.le_of_ble_eq_true rfl⟩ (Nat.le_of_ble_eq_true rfl) ?_
    refine r_ifB_ne hX dX9_lay_13 (fun c2 => ?_) (fun c2 => ?_)
    · skip
      obtain ⟨u, hul, hu, rfl⟩ := inB_nat c2 (by decide) (by decide)
      rcases (show u = 0 ∨ u = 1 ∨ u = 2 ∨ u = 3 from by omega) with rfl | rfl | rfl | rfl
      · skip
        refine r_iload_n hX dX9_lay_19 rfl ?_
        refine r_iconst hX (nI 1) dX9_lay_20 rfl ?_
        refine r_icmpN_ne hX dX9_lay_21 (by decide) (by decide) (fun c3 => ?_) (fun c3 => absurd c3 (by decide))
        refine r_iload_n hX dX9_lay_32 rfl ?_
        refine r_iconst hX (nI 2) dX9_lay_33 rfl ?_
        refine r_icmpN_ne hX dX9_lay_34 (by decide) (by decide) (fun c4 => ?_) (fun c4 => absurd c4 (by decide))
        refine r_iload_n hX dX9_lay_47 rfl ?_
        refine r_iconst hX (nI 2) dX9_lay_48 rfl ?_
        refine r_icmpN_ne hX dX9_lay_49 (by decide) (by decide) (fun c5 => ?_) (fun c5 => absurd c5 (by decide))
        refine r_aload_n hX dX9_lay_68 rfl ?_
        refine r_getR hX dX9_lay_69 fl_X9_47 (hA.1 100 (8, 0) rfl) rfl (hA.2.1 100 5 108 rfl) ?_
        refine r_iload_n hX dX9_lay_72 rfl ?_
        refine r_aald hX dX9_lay_73 (hA.1 108 (14, 5) rfl) (by decide) (by decide) (by decide) (by omega) (.ref (L.1 (120 + 3 * q))) (by rw [(hA.sl (s := q) (by omega)).2]; rfl) ?_
        refine r_astore hX [(0, .ref (L.1 100)), (1, .int (nI q)), (2, .int (nI 0)), (3, .int k), (4, .ref (L.1 (120 + 3 * q)))] dX9_lay_74 hN4 rfl ?_
        refine r_aload hX dX9_lay_76 rfl ?_
        refine r_getIV hX dX9_lay_78 fl_X9_324 (hA.sl (s := q) (by omega)).1 rfl (nI (Q.1 q)) (hS q (by omega)).1 ?_
        refine r_istore hX [(0, .ref (L.1 100)), (1, .int (nI q)), (2, .int (nI 0)), (3, .int k), (4, .ref (L.1 (120 + 3 * q))), (5, .int (nI (Q.1 q)))] dX9_lay_81 hN5 rfl ?_
        refine r_aload hX dX9_lay_83 rfl ?_
        refine r_iload_n hX dX9_lay_85 rfl ?_
        refine r_putI hX dX9_lay_86 fl_X9_324 (hA.sl (s := q) (by omega)).1 rfl rfl rfl rfl ?_
        refine r_iload_n hX dX9_lay_89 rfl ?_
        refine r_iconst hX (nI 1) dX9_lay_90 rfl ?_
        refine r_icmpN_ne hX dX9_lay_91 (by decide) (by decide) (fun c6 => ?_) (fun c6 => absurd c6 (by decide))
        refine r_iload_n hX dX9_lay_130 rfl ?_
        refine r_iconst hX (nI 2) dX9_lay_131 rfl ?_
        refine r_icmpN_ne hX dX9_lay_132 (by decide) (by decide) (fun c7 => ?_) (fun c7 => absurd c7 (by decide))
        refine r_iload_n hX dX9_lay_149 rfl ?_
        refine r_iconst hX (nI 3) dX9_lay_150 rfl ?_
        refine r_icmpN_ne hX dX9_lay_151 (by decide) (by decide) (fun c8 => ?_) (fun c8 => absurd c8 (by decide))
        refine r_iload hX dX9_lay_160 rfl ?_
        exact r_ireturn hX hQ dX9_lay_162 ⟨Nat.le_of_ble_eq_true rfl, Nat.le_of_ble_eq_true rfl⟩ (PNI.mk (by rw [lay_0 hq c1]; exact ⟨rfl, rsc_lay hS (by omega) (by decide) up_s (fun z => absurd z (by decide)) (fun z => absurd z (by decide)) (fun z => absurd z (by decide)) (fun d i hd => by rw [up_n (by omega)]) (LX.rf _ L), ⟨hA, hWl, LX.rf _ L, hSl, fun d i hd => by rw [up_n (by omega)]⟩⟩))
      · skip
        refine r_iload_n hX dX9_lay_19 rfl ?_
        refine r_iconst hX (nI 1) dX9_lay_20 rfl ?_
        refine r_icmpN_ne hX dX9_lay_21 (by decide) (by decide) (fun c9 => absurd c9 (by decide)) (fun c9 => ?_)
        refine r_aload_n hX dX9_lay_24 rfl ?_
        refine r_iload_n hX dX9_lay_25 rfl ?_
        refine r_callVF (As := [.int k]) (rest := []) hX (c_X9_isWord hA σ A h0 hW hTx hV k) dX9_lay_26 cb_X9_132 (hA.1 100 (8, 0) rfl) rfl rfl ⟨Nat.le_of_ble_eq_true rfl, Nat.le_of_ble_eq_true rfl⟩ ⟨Nat.le_of_ble_eq_true rfl, Nat.le_of_ble_eq_true rfl⟩ (Nat.le_of_ble_eq_true rfl) ?_
        refine r_ifB_eq hX dX9_lay_29 (fun c10 => ?_) (fun c10 => ?_)
        · skip
          refine r_ldc hX dX9_lay_44 ko_X9_75 ?_
          exact r_ireturn hX hQ dX9_lay_46 ⟨Nat.le_of_ble_eq_true rfl, Nat.le_of_ble_eq_true rfl⟩ (PNI.mk (by rw [lay_b (fun z => z.2.2.1 ⟨rfl, c10⟩)]; exact ⟨rfl, hS, ⟨hA, hWl, LX.rf _ L, hSl, fun _ _ _ => rfl⟩⟩))
        · skip
          obtain ⟨w, hw, rfl⟩ := isB_nat c10 (by omega)
          have hwf := hV.2.2.2.2.2.2.1 w hw
          refine r_iload_n hX dX9_lay_32 rfl ?_
          refine r_iconst hX (nI 2) dX9_lay_33 rfl ?_
          refine r_icmpN_ne hX dX9_lay_34 (by decide) (by decide) (fun c11 => ?_) (fun c11 => absurd c11 (by decide))
          refine r_iload_n hX dX9_lay_47 rfl ?_
          refine r_iconst hX (nI 2) dX9_lay_48 rfl ?_
          refine r_icmpN_ne hX dX9_lay_49 (by decide) (by decide) (fun c12 => ?_) (fun c12 => absurd c12 (by decide))
          refine r_aload_n hX dX9_lay_68 rfl ?_
          refine r_getR hX dX9_lay_69 fl_X9_47 (hA.1 100 (8, 0) rfl) rfl (hA.2.1 100 5 108 rfl) ?_
          refine r_iload_n hX dX9_lay_72 rfl ?_
          refine r_aald hX dX9_lay_73 (hA.1 108 (14, 5) rfl) (by decide) (by decide) (by decide) (by omega) (.ref (L.1 (120 + 3 * q))) (by rw [(hA.sl (s := q) (by omega)).2]; rfl) ?_
          refine r_astore hX [(0, .ref (L.1 100)), (1, .int (nI q)), (2, .int (nI 1)), (3, .int (nI w)), (4, .ref (L.1 (120 + 3 * q)))] dX9_lay_74 hN4 rfl ?_
          refine r_aload hX dX9_lay_76 rfl ?_
          refine r_getIV hX dX9_lay_78 fl_X9_324 (hA.sl (s := q) (by omega)).1 rfl (nI (Q.1 q)) (hS q (by omega)).1 ?_
          refine r_istore hX [(0, .ref (L.1 100)), (1, .int (nI q)), (2, .int (nI 1)), (3, .int (nI w)), (4, .ref (L.1 (120 + 3 * q))), (5, .int (nI (Q.1 q)))] dX9_lay_81 hN5 rfl ?_
          refine r_aload hX dX9_lay_83 rfl ?_
          refine r_iload_n hX dX9_lay_85 rfl ?_
          refine r_putI hX dX9_lay_86 fl_X9_324 (hA.sl (s := q) (by omega)).1 rfl rfl rfl rfl ?_
          refine r_iload_n hX dX9_lay_89 rfl ?_
          refine r_iconst hX (nI 1) dX9_lay_90 rfl ?_
          refine r_icmpN_ne hX dX9_lay_91 (by decide) (by decide) (fun c13 => absurd c13 (by decide)) (fun c13 => ?_)
          refine r_aload hX dX9_lay_94 rfl ?_
          refine r_aload_n hX dX9_lay_96 rfl ?_
          refine r_getR hX dX9_lay_97 fl_X9_10 (hA.1 100 (8, 0) rfl) rfl (hA.2.1 100 0 200 rfl) ?_
          refine r_getR hX dX9_lay_100 fl_X9_86 (hC.1 0 (2, 0) rfl) rfl (hC.2.1 0 5 4 rfl) ?_
          refine r_getR hX dX9_lay_103 fl_X9_135 (hC.1 4 (7, 0) rfl) rfl (hC.2.1 4 1 9 rfl) ?_
          refine r_iload_n hX dX9_lay_106 rfl ?_
          refine r_aldN hX dX9_lay_107 (hC.1 9 (10, 24) rfl) (by decide) (by omega) (nI (aF A w 0)) (by rw [up_n (by omega)]; exact (hW.2.1 w (by omega))) ?_
          refine r_putI hX dX9_lay_108 fl_X9_327 (hA.sl (s := q) (by omega)).1 rfl rfl rfl rfl ?_
          refine r_aload hX dX9_lay_111 rfl ?_
          refine r_aload_n hX dX9_lay_113 rfl ?_
          refine r_getR hX dX9_lay_114 fl_X9_10 (hA.1 100 (8, 0) rfl) rfl (hA.2.1 100 0 200 rfl) ?_
          refine r_getR hX dX9_lay_117 fl_X9_86 (hC.1 0 (2, 0) rfl) rfl (hC.2.1 0 5 4 rfl) ?_
          refine r_iload_n hX dX9_lay_120 rfl ?_
          refine r_callVF (As := [.int (nI w)]) (rest := [.ref (L.1 (120 + 3 * q))]) hX (c_X8_saysOf 200 hC (up (up σ (120 + 3 * q) 0 (nI 1)) (120 + 3 * q) 1 (nI (aF A w 0))) A (RW.kept hW (fun c i hc => by rw [up_n (by omega), up_n (by omega)])) hV w (by omega)) dX9_lay_121 cb_X9_153 (hC.1 4 (7, 0) rfl) rfl rfl ⟨Nat.le_of_ble_eq_true rfl, Nat.le_of_ble_eq_true rfl⟩ ⟨Nat.le_of_ble_eq_true rfl, Nat.le_of_ble_eq_true rfl⟩ (Nat.le_of_ble_eq_true rfl) ?_
          refine r_putI hX dX9_lay_124 fl_X9_329 (hA.sl (s := q) (by omega)).1 rfl rfl rfl rfl ?_
          refine r_goto hX dX9_lay_127 ?_
          refine r_iload hX dX9_lay_160 rfl ?_
          exact r_ireturn hX hQ dX9_lay_162 ⟨Nat.le_of_ble_eq_true rfl, Nat.le_of_ble_eq_true rfl⟩ (PNI.mk (by rw [lay_1 hq c1 (by omega) c10]; exact ⟨rfl, rsc_lay hS (by omega) (by decide) (by rw [up_n (by omega), up_n (by omega), up_s]) (fun _ => ⟨aF A w 0, hwf.1, rfl, hwf.2.2.2.2.1, hwf.2.2.2.2.2, (by rw [up_n (by omega), up_s]), up_s⟩) (fun z => absurd z (by decide)) (fun z => absurd z (by decide)) (fun d i hd => by rw [up_n (by omega), up_n (by omega), up_n (by omega)]) (LX.rf _ L), ⟨hA, hWl, LX.rf _ L, hSl, fun d i hd => by rw [up_n (by omega), up_n (by omega), up_n (by omega)]⟩⟩))
      · skip
        refine r_iload_n hX dX9_lay_19 rfl ?_
        refine r_iconst hX (nI 1) dX9_lay_20 rfl ?_
        refine r_icmpN_ne hX dX9_lay_21 (by decide) (by decide) (fun c14 => ?_) (fun c14 => absurd c14 (by decide))
        refine r_iload_n hX dX9_lay_32 rfl ?_
        refine r_iconst hX (nI 2) dX9_lay_33 rfl ?_
        refine r_icmpN_ne hX dX9_lay_34 (by decide) (by decide) (fun c15 => absurd c15 (by decide)) (fun c15 => ?_)
        refine r_iload_n hX dX9_lay_37 rfl ?_
        refine r_callSF (As := [.int k]) (rest := []) hX (c_X9_isSheet σ k) dX9_lay_38 cb_X9_279 rfl rfl ⟨Nat.le_of_ble_eq_true rfl, Nat.le_of_ble_eq_true rfl⟩ ⟨Nat.le_of_ble_eq_true rfl, Nat.le_of_ble_eq_true rfl⟩ (Nat.le_of_ble_eq_true rfl) ?_
        refine r_ifB_ne hX dX9_lay_41 (fun c16 => ?_) (fun c16 => ?_)
        · skip
          obtain ⟨e, hel, he, rfl⟩ := inB_nat c16 (by decide) (by decide)
          refine r_iload_n hX dX9_lay_47 rfl ?_
          refine r_iconst hX (nI 2) dX9_lay_48 rfl ?_
          refine r_icmpN_ne hX dX9_lay_49 (by decide) (by decide) (fun c17 => absurd c17 (by decide)) (fun c17 => ?_)
          refine r_aload_n hX dX9_lay_52 rfl ?_
          refine r_getR hX dX9_lay_53 fl_X9_41 (hA.1 100 (8, 0) rfl) rfl (hA.2.1 100 4 107 rfl) ?_
          refine r_iload_n hX dX9_lay_56 rfl ?_
          refine r_aald hX dX9_lay_57 (hA.1 107 (13, 4) rfl) (by decide) (by decide) (by decide) (by omega) (.ref (L.1 (110 + 2 * e))) (by rw [(hA.sh (q := e) (by omega)).2]; rfl) ?_
          refine r_callVF (As := []) (rest := []) hX (c_X4_isMissing σ (110 + 2 * e) (hA.sh (q := e) (by omega)).1 (B.1 e) (hB e (by omega)).1) dX9_lay_58 cb_X9_287 (hA.sh (q := e) (by omega)).1.1 rfl rfl ⟨Nat.le_of_ble_eq_true rfl, Nat.le_of_ble_eq_true rfl⟩ ⟨Nat.le_of_ble_eq_true rfl, Nat.le_of_ble_eq_true rfl⟩ (Nat.le_of_ble_eq_true rfl) ?_
          refine r_ifB_eq hX dX9_lay_61 (fun c18 => ?_) (fun c18 => ?_)
          · skip
            refine r_aload_n hX dX9_lay_68 rfl ?_
            refine r_getR hX dX9_lay_69 fl_X9_47 (hA.1 100 (8, 0) rfl) rfl (hA.2.1 100 5 108 rfl) ?_
            refine r_iload_n hX dX9_lay_72 rfl ?_
            refine r_aald hX dX9_lay_73 (hA.1 108 (14, 5) rfl) (by decide) (by decide) (by decide) (by omega) (.ref (L.1 (120 + 3 * q))) (by rw [(hA.sl (s := q) (by omega)).2]; rfl) ?_
            refine r_astore hX [(0, .ref (L.1 100)), (1, .int (nI q)), (2, .int (nI 2)), (3, .int (nI e)), (4, .ref (L.1 (120 + 3 * q)))] dX9_lay_74 hN4 rfl ?_
            refine r_aload hX dX9_lay_76 rfl ?_
            refine r_getIV hX dX9_lay_78 fl_X9_324 (hA.sl (s := q) (by omega)).1 rfl (nI (Q.1 q)) (hS q (by omega)).1 ?_
            refine r_istore hX [(0, .ref (L.1 100)), (1, .int (nI q)), (2, .int (nI 2)), (3, .int (nI e)), (4, .ref (L.1 (120 + 3 * q))), (5, .int (nI (Q.1 q)))] dX9_lay_81 hN5 rfl ?_
            refine r_aload hX dX9_lay_83 rfl ?_
            refine r_iload_n hX dX9_lay_85 rfl ?_
            refine r_putI hX dX9_lay_86 fl_X9_324 (hA.sl (s := q) (by omega)).1 rfl rfl rfl rfl ?_
            refine r_iload_n hX dX9_lay_89 rfl ?_
            refine r_iconst hX (nI 1) dX9_lay_90 rfl ?_
            refine r_icmpN_ne hX dX9_lay_91 (by decide) (by decide) (fun c19 => ?_) (fun c19 => absurd c19 (by decide))
            refine r_iload_n hX dX9_lay_130 rfl ?_
            refine r_iconst hX (nI 2) dX9_lay_131 rfl ?_
            refine r_icmpN_ne hX dX9_lay_132 (by decide) (by decide) (fun c20 => absurd c20 (by decide)) (fun c20 => ?_)
            refine r_aload hX dX9_lay_135 rfl ?_
            refine r_aload_n hX dX9_lay_137 rfl ?_
            refine r_getR hX dX9_lay_138 fl_X9_41 (hA.1 100 (8, 0) rfl) rfl (hA.2.1 100 4 107 rfl) ?_
            refine r_iload_n hX dX9_lay_141 rfl ?_
            refine r_aald hX dX9_lay_142 (hA.1 107 (13, 4) rfl) (by decide) (by decide) (by decide) (by omega) (.ref (L.1 (110 + 2 * e))) (by rw [(hA.sh (q := e) (by omega)).2]; rfl) ?_
            refine r_callVN (As := [.ref (L.1 (110 + 2 * e))]) (rest := []) hX (c_X5_takeSheet hNx (120 + 3 * q) (110 + 2 * e) (hA.sl (s := q) (by omega)).1 (hA.sh (q := e) (by omega)).1 (by omega) hWl (up σ (120 + 3 * q) 0 (nI 2)) (hSl q (by omega))) dX9_lay_143 cb_X9_332 (hA.sl (s := q) (by omega)).1 rfl rfl ⟨Nat.le_of_ble_eq_true rfl, Nat.le_of_ble_eq_true rfl⟩ ⟨Nat.le_of_ble_eq_true rfl, Nat.le_of_ble_eq_true rfl⟩ (Nat.le_of_ble_eq_true rfl) (fun L21 σ22 h23 => ?_)
            have hTk := h23
            refine At.to (ls' := [(0, .ref (L21.1 100)), (1, .int (nI q)), (2, .int (nI 2)), (3, .int (nI e)), (4, .ref (L21.1 (120 + 3 * q))), (5, .int (nI (Q.1 q)))]) (st' := []) ?_ (by rw [(show L21.1 (100) = L.1 (100) from (hTk.1 (100) (by unfold pTk; omega)).1), (show L21.1 (120 + 3 * q) = L.1 (120 + 3 * q) from hTk.2.1)] <;> rfl) rfl rfl
            refine r_goto hX dX9_lay_146 ?_
            refine r_iload hX dX9_lay_160 rfl ?_
            exact r_ireturn hX hQ dX9_lay_162 ⟨Nat.le_of_ble_eq_true rfl, Nat.le_of_ble_eq_true rfl⟩ (PNI.mk (by have z1 : 120 + 3 * q + 1 = 121 + 3 * q := (by omega); have hSA := hTk.2.2.2.2.1; have hT1 := hTk.2.2.2.2.2.2.1; have hT2 := hTk.2.2.2.2.2.2.2.1; rw [z1] at hSA hT1 hT2; rw [lay_2 hq c1 he c16 c18]; exact ⟨rfl, rsc_lay hS (by omega) (by decide) ((hTk.2.2.2.2.2.2.2.2 _ _ (by omega) (by omega)).trans up_s) (fun z => absurd z (by decide)) (fun _ => ⟨B.2.1 e, (hB e (by omega)).2.2.1, rfl, hTk.2.2.2.1.trans (congrArg some (by omega)), hSA, hT1.trans ((up_n (by omega)).trans (hB e (by omega)).2.1), fun i hi => (hT2 i hi).trans ((up_n (by omega)).trans ((hB e (by omega)).2.2.2 i hi))⟩) (fun z => absurd z (by decide)) (fun d i hd => (hTk.2.2.2.2.2.2.2.2 d i (by omega) (by omega)).trans (up_n (by omega))) hTk.1, ⟨hA.tk hTk.1 (by omega) hTk.2.2.1, hTk.2.2.2.2.2.1, hTk.1.mono (fun d hd => by unfold pTk at hd; omega), (fun j hj => if z : j = q then (by rw [z]; exact Or.inr ⟨hTk.2.2.2.1, hTk.2.2.2.2.1⟩) else (hSl j hj).lx hTk.1 (by unfold pTk; omega) (by unfold pTk; omega) (by unfold pTk; omega)), fun d i hd => (hTk.2.2.2.2.2.2.2.2 d i (by omega) (by omega)).trans (up_n (by omega))⟩⟩))
          · skip
            refine r_ldcw hX dX9_lay_64 ko_X9_291 ?_
            exact r_ireturn hX hQ dX9_lay_67 ⟨Nat.le_of_ble_eq_true rfl, Nat.le_of_ble_eq_true rfl⟩ (PNI.mk (by rw [lay_2n c1 he c16 (none_of c18)]; exact ⟨rfl, hS, ⟨hA, hWl, LX.rf _ L, hSl, fun _ _ _ => rfl⟩⟩))
        · skip
          refine r_ldc hX dX9_lay_44 ko_X9_75 ?_
          exact r_ireturn hX hQ dX9_lay_46 ⟨Nat.le_of_ble_eq_true rfl, Nat.le_of_ble_eq_true rfl⟩ (PNI.mk (by rw [lay_b (fun z => z.2.2.2 ⟨rfl, c16⟩)]; exact ⟨rfl, hS, ⟨hA, hWl, LX.rf _ L, hSl, fun _ _ _ => rfl⟩⟩))
      · skip
        refine r_iload_n hX dX9_lay_19 rfl ?_
        refine r_iconst hX (nI 1) dX9_lay_20 rfl ?_
        refine r_icmpN_ne hX dX9_lay_21 (by decide) (by decide) (fun c25 => ?_) (fun c25 => absurd c25 (by decide))
        refine r_iload_n hX dX9_lay_32 rfl ?_
        refine r_iconst hX (nI 2) dX9_lay_33 rfl ?_
        refine r_icmpN_ne hX dX9_lay_34 (by decide) (by decide) (fun c26 => ?_) (fun c26 => absurd c26 (by decide))
        refine r_iload_n hX dX9_lay_47 rfl ?_
        refine r_iconst hX (nI 2) dX9_lay_48 rfl ?_
        refine r_icmpN_ne hX dX9_lay_49 (by decide) (by decide) (fun c27 => ?_) (fun c27 => absurd c27 (by decide))
        refine r_aload_n hX dX9_lay_68 rfl ?_
        refine r_getR hX dX9_lay_69 fl_X9_47 (hA.1 100 (8, 0) rfl) rfl (hA.2.1 100 5 108 rfl) ?_
        refine r_iload_n hX dX9_lay_72 rfl ?_
        refine r_aald hX dX9_lay_73 (hA.1 108 (14, 5) rfl) (by decide) (by decide) (by decide) (by omega) (.ref (L.1 (120 + 3 * q))) (by rw [(hA.sl (s := q) (by omega)).2]; rfl) ?_
        refine r_astore hX [(0, .ref (L.1 100)), (1, .int (nI q)), (2, .int (nI 3)), (3, .int k), (4, .ref (L.1 (120 + 3 * q)))] dX9_lay_74 hN4 rfl ?_
        refine r_aload hX dX9_lay_76 rfl ?_
        refine r_getIV hX dX9_lay_78 fl_X9_324 (hA.sl (s := q) (by omega)).1 rfl (nI (Q.1 q)) (hS q (by omega)).1 ?_
        refine r_istore hX [(0, .ref (L.1 100)), (1, .int (nI q)), (2, .int (nI 3)), (3, .int k), (4, .ref (L.1 (120 + 3 * q))), (5, .int (nI (Q.1 q)))] dX9_lay_81 hN5 rfl ?_
        refine r_aload hX dX9_lay_83 rfl ?_
        refine r_iload_n hX dX9_lay_85 rfl ?_
        refine r_putI hX dX9_lay_86 fl_X9_324 (hA.sl (s := q) (by omega)).1 rfl rfl rfl rfl ?_
        refine r_iload_n hX dX9_lay_89 rfl ?_
        refine r_iconst hX (nI 1) dX9_lay_90 rfl ?_
        refine r_icmpN_ne hX dX9_lay_91 (by decide) (by decide) (fun c28 => ?_) (fun c28 => absurd c28 (by decide))
        refine r_iload_n hX dX9_lay_130 rfl ?_
        refine r_iconst hX (nI 2) dX9_lay_131 rfl ?_
        refine r_icmpN_ne hX dX9_lay_132 (by decide) (by decide) (fun c29 => ?_) (fun c29 => absurd c29 (by decide))
        refine r_iload_n hX dX9_lay_149 rfl ?_
        refine r_iconst hX (nI 3) dX9_lay_150 rfl ?_
        refine r_icmpN_ne hX dX9_lay_151 (by decide) (by decide) (fun c30 => absurd c30 (by decide)) (fun c30 => ?_)
        refine r_aload hX dX9_lay_154 rfl ?_
        refine r_iload_n hX dX9_lay_156 rfl ?_
        refine r_putI hX dX9_lay_157 fl_X9_336 (hA.sl (s := q) (by omega)).1 rfl rfl rfl rfl ?_
        refine r_iload hX dX9_lay_160 rfl ?_
        exact r_ireturn hX hQ dX9_lay_162 ⟨Nat.le_of_ble_eq_true rfl, Nat.le_of_ble_eq_true rfl⟩ (PNI.mk (by rw [lay_3 hq c1]; exact ⟨rfl, rsc_lay hS (by omega) (by decide) (by rw [up_n (by omega), up_s]) (fun z => absurd z (by decide)) (fun z => absurd z (by decide)) (fun _ => up_s) (fun d i hd => by rw [up_n (by omega), up_n (by omega)]) (LX.rf _ L), ⟨hA, hWl, LX.rf _ L, hSl, fun d i hd => by rw [up_n (by omega), up_n (by omega)]⟩⟩))
    · skip
      refine r_ldc hX dX9_lay_16 ko_X9_75 ?_
      exact r_ireturn hX hQ dX9_lay_18 ⟨Nat.le_of_ble_eq_true rfl, Nat.le_of_ble_eq_true rfl⟩ (PNI.mk (by rw [lay_b (fun z => by have z := z.2.1; rw [c2] at z; cases z)]; exact ⟨rfl, hS, ⟨hA, hWl, LX.rf _ L, hSl, fun _ _ _ => rfl⟩⟩))
