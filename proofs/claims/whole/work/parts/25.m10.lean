set_option maxHeartbeats 4000000 in
set_option maxRecDepth 100000 in
theorem c_X10_buys {l : Launch} {D : Ds} {L : La} (hM : MAt L) (σ : Me) (A : Al) (hR : RM (σ 1) A) (hV : Va A) (h : Nat) (hT0 : 0 < aT A) (hh : h ≤ 999) : Ct l yX10_buys cX10_buys 5 none { frames := 9, cells := 0, slots := 0, locals := 203 } D L σ [.ref (L.1 0), .int (nI h)] (PV L (fun σ2 => σ2 0 17 = nI (byT A).1 ∧ σ2 0 18 = nI (byR A) ∧ RM (σ2 1) (byE A h) ∧ S1 σ σ2)) := by
  refine Ct.of (by decide) (Nat.le_of_ble_eq_true rfl) ?_
  intro X hl hD hnl hX0 hQ
  have hX : Ok X cX10_buys RX10 "buys" { frames := 9, cells := 0, slots := 0, locals := 203 } none := hX0
  have hN2 : 2 < xn X := by rw [hnl]; decide
  have hN3 : 3 < xn X := by rw [hnl]; decide
  have hN4 : 4 < xn X := by rw [hnl]; decide
  have hT := hV.1
  have hNn := hV.2.1
  have hW := hV.2.2.1
  show At X L σ 0 0 [(0, .ref (L.1 0)), (1, .int (nI h))] 0 []
  refine r_aload_n hX dX10_buys_0 rfl ?_
  refine r_aload_n hX dX10_buys_1 rfl ?_
  refine r_callVI (As := []) (rest := [.ref (L.1 0)]) hX (c_X10_draw hM σ A hR hV) dX10_buys_2 cb_X10_219 (hM.1 0 (9, 0) rfl) rfl rfl ⟨Nat.le_of_ble_eq_true rfl, Nat.le_of_ble_eq_true rfl⟩ ⟨Nat.le_of_ble_eq_true rfl, Nat.le_of_ble_eq_true rfl⟩ (Nat.le_of_ble_eq_true rfl) (fun r1 σ2 h3 => ?_)
  obtain ⟨rfl, hR4, hO5⟩ := h3
  have := drN_lt (aZ (drA A))
  refine r_iconst hX (nI 3) dX10_buys_5 rfl ?_
  refine r_iremN hX dX10_buys_6 (by omega) (by decide) (by decide) ?_
  have J : ∀ (σj : Me), RM (σj 1) (byT A).2 → S1 σ σj → At X L σj 0 0 [(0, .ref (L.1 0)), (1, .int (nI h))] 29 [.int (nI (byT A).1), .ref (L.1 0)] := by
    intro σj hRj hSj
    have ht := byT_lt hV hT0
    obtain ⟨e1, e2, e3, e4, e5⟩ := byT_same A
    have hVj := va_byT hV
    obtain ⟨t, ht0⟩ : ∃ z, z = (byT A).1 := ⟨_, rfl⟩
    obtain ⟨B, hB0⟩ : ∃ z, z = (byT A).2 := ⟨_, rfl⟩
    rw [← hB0] at hRj e1 e2 e3 e4 e5 hVj
    rw [← ht0] at ht ⊢
    have hbu := (hV.2.2.2.2.1 t ht).2
    have hwo := (hV.2.2.2.2.1 t ht).1
    refine r_putI hX dX10_buys_29 fl_X10_223 (hM.1 0 (9, 0) rfl) rfl rfl rfl rfl ?_
    refine r_iconst hX (nI 5) dX10_buys_32 rfl ?_
    refine r_iconst hX (nI 2) dX10_buys_33 rfl ?_
    refine r_aload_n hX dX10_buys_34 rfl ?_
    refine r_getIV hX dX10_buys_35 fl_X10_223 (hM.1 0 (9, 0) rfl) rfl (nI t) up_s ?_
    refine r_imulN hX dX10_buys_38 ?_
    refine r_iaddN hX dX10_buys_39 ?_
    refine r_istore_n hX [(0, .ref (L.1 0)), (1, .int (nI h)), (2, .int (nI (5 + (2 * t))))] dX10_buys_40 hN2 rfl ?_
    refine r_aload_n hX dX10_buys_41 rfl ?_
    refine r_getR hX dX10_buys_42 fl_X10_9 (hM.1 0 (9, 0) rfl) rfl (hM.2 0 1 rfl) ?_
    refine r_iload_n hX dX10_buys_45 rfl ?_
    refine r_iconst hX (nI 1) dX10_buys_46 rfl ?_
    refine r_iaddN hX dX10_buys_47 ?_
    refine r_aload_n hX dX10_buys_48 rfl ?_
    refine r_getR hX dX10_buys_49 fl_X10_9 (hM.1 0 (9, 0) rfl) rfl (hM.2 0 1 rfl) ?_
    refine r_iload_n hX dX10_buys_52 rfl ?_
    refine r_iconst hX (nI 1) dX10_buys_53 rfl ?_
    refine r_iaddN hX dX10_buys_54 ?_
    refine r_aldN hX dX10_buys_55 (hM.1 1 (10, 1605) rfl) (by decide) (by omega) (nI (aB A t)) (by rw [up_n (by omega)]; exact ((hRj.2.2.2.2.2.1 t (by omega)).2.trans (by rw [e5]))) ?_
    refine r_iconst hX (nI 1) dX10_buys_56 rfl ?_
    refine r_iaddN hX dX10_buys_57 ?_
    refine r_sipush hX (nI 9999) dX10_buys_58 rfl ?_
    refine r_callSF (As := [.int (nI (aB A t + 1)), .int (nI 9999)]) (rest := [.int (nI (5 + (2 * t) + 1)), .ref (L.1 1)]) hX (c_X10_heldN (up σj 0 17 (nI t)) (aB A t + 1) 9999 (by omega) (by decide)) dX10_buys_61 cb_X10_120 rfl rfl ⟨Nat.le_of_ble_eq_true rfl, Nat.le_of_ble_eq_true rfl⟩ ⟨Nat.le_of_ble_eq_true rfl, Nat.le_of_ble_eq_true rfl⟩ (Nat.le_of_ble_eq_true rfl) ?_
    refine r_astN hX dX10_buys_64 (hM.1 1 (10, 1605) rfl) (by decide) (by omega) ?_
    obtain ⟨σb, hσb⟩ : ∃ z, z = (up (up σj 0 17 (nI t)) 1 (5 + (2 * t) + 1) (nI (min 9999 (aB A t + 1)))) := ⟨_, rfl⟩
    rw [← hσb]
    have hBy : setB B t (min 9999 (aB A t + 1)) = byB A := by rw [ht0, hB0]; rfl
    have hRb : RM (σb 1) (byB A) := by rw [hσb, ← hBy]; exact rm_setB hRj hVj (by omega) up_s (fun j h1 => by rw [up_n (by omega), up_n (by omega)])
    have hSb : S1 σ σb := by rw [hσb]; exact (S1.up (S1.up hSj (Or.inr rfl)) (Or.inl rfl))
    have f17 : σb 0 17 = nI t := by rw [hσb, up_n (by omega), up_s]
    have hVb : Va (byB A) := by rw [← hBy]; exact va_setB hVj (Nat.min_le_left _ _)
    have hWb : aW (byB A) = aW A := by rw [← hBy, aW_setB]; exact e3
    have hOb : aO (byB A) = aO A := by rw [← hBy, aO_setB]; exact e4
    have hTb : aT (byB A) = aT A := by rw [← hBy, aT_setB]; exact e1
    have hm5 := mn_le hVb t
    refine r_aload_n hX dX10_buys_65 rfl ?_
    refine r_aload_n hX dX10_buys_66 rfl ?_
    refine r_getIV hX dX10_buys_67 fl_X10_223 (hM.1 0 (9, 0) rfl) rfl (nI t) f17 ?_
    refine r_callVF (As := [.int (nI t)]) (rest := []) hX (c_X10_meanOf hM σb (byB A) hRb hVb t (by omega)) dX10_buys_70 cb_X10_171 (hM.1 0 (9, 0) rfl) rfl rfl ⟨Nat.le_of_ble_eq_true rfl, Nat.le_of_ble_eq_true rfl⟩ ⟨Nat.le_of_ble_eq_true rfl, Nat.le_of_ble_eq_true rfl⟩ (Nat.le_of_ble_eq_true rfl) ?_
    by_cases hcw : cw (byB A) 1 t (aW (byB A)) = 0
    · skip
      rw [mnI_0 hcw]
      refine r_istore_n hX [(0, .ref (L.1 0)), (1, .int (nI h)), (2, .int (nI (5 + (2 * t)))), (3, .int (-1000000005))] dX10_buys_73 hN3 rfl ?_
      refine r_iload_n hX dX10_buys_74 rfl ?_
      refine r_ldc hX dX10_buys_75 ko_X10_92 ?_
      refine r_icmp_ne hX dX10_buys_77 (fun c6 => absurd rfl c6) (fun c6 => ?_)
      refine r_bipush hX (nI 50) dX10_buys_80 rfl ?_
      refine r_goto hX dX10_buys_82 ?_
      have hF : byF A = 50 := by unfold byF; rw [← ht0, if_pos hcw]
      obtain ⟨far, hfar⟩ : ∃ z, z = 50 := ⟨_, rfl⟩
      rw [← hfar] at hF ⊢
      have hfl : far < 2 ^ 31 := by omega
      refine r_istore hX [(0, .ref (L.1 0)), (1, .int (nI h)), (2, .int (nI (5 + (2 * t)))), (3, .int (-1000000005)), (4, .int (nI far))] dX10_buys_97 hN4 rfl ?_
      refine r_aload_n hX dX10_buys_99 rfl ?_
      refine r_iconst hX (nI 0) dX10_buys_100 rfl ?_
      refine r_putI hX dX10_buys_101 fl_X10_226 (hM.1 0 (9, 0) rfl) rfl rfl rfl rfl ?_
      refine r_aload_n hX dX10_buys_104 rfl ?_
      refine r_callVI (As := []) (rest := []) hX (c_X10_draw hM (up σb 0 18 (nI 0)) (byB A) (by rw [up_row (by decide)]; exact hRb) hVb) dX10_buys_105 cb_X10_219 (hM.1 0 (9, 0) rfl) rfl rfl ⟨Nat.le_of_ble_eq_true rfl, Nat.le_of_ble_eq_true rfl⟩ ⟨Nat.le_of_ble_eq_true rfl, Nat.le_of_ble_eq_true rfl⟩ (Nat.le_of_ble_eq_true rfl) (fun r7 σ8 h9 => ?_)
      obtain ⟨rfl, hR10, hO11⟩ := h9
      have := drN_lt (aZ (drA (byB A)))
      have hRc : RM (σ8 1) (byC A) := by unfold byC; exact hR10
      have hVc := va_byC hV
      obtain ⟨g1, g2, g3⟩ := byC_same A
      have f17c : σ8 0 17 = nI t := by rw [hO11 0 17 (by decide), up_n (by omega)]; exact f17
      have f18c : σ8 0 18 = nI 0 := by rw [hO11 0 18 (by decide), up_s]
      have hcz : aZ (byC A) = aZ (drA (byB A)) := by unfold byC; rfl
      have hOc : aO (byC A) = aO A := by unfold byC; rw [aO_drA]; exact hOb
      refine r_bipush hX (nI 100) dX10_buys_108 rfl ?_
      refine r_iremN hX dX10_buys_110 (by omega) (by decide) (by decide) ?_
      refine r_iload hX dX10_buys_111 rfl ?_
      refine r_icmpN_ge hX dX10_buys_113 (by omega) (by omega) (fun c12 => ?_) (fun c12 => ?_)
      · skip
        exact r_return hX hQ dX10_buys_180 ⟨Nat.le_of_ble_eq_true rfl, Nat.le_of_ble_eq_true rfl⟩ (PV.mk (by have hw : byW A = false := (by unfold byW; rw [hF, hcz]; simp; omega); refine ⟨by rw [← ht0]; exact f17c, by unfold byR; rw [if_neg (by rw [hw]; decide)]; exact f18c, ?_, (S1.tr (S1.up hSb (Or.inr rfl)) hO11.s1)⟩; unfold byE; rw [if_neg (by rw [hw]; decide)]; exact hRc))
      · skip
        refine r_aload_n hX dX10_buys_116 rfl ?_
        refine r_getR hX dX10_buys_117 fl_X10_9 (hM.1 0 (9, 0) rfl) rfl (hM.2 0 1 rfl) ?_
        refine r_iconst hX (nI 1) dX10_buys_120 rfl ?_
        refine r_aldN hX dX10_buys_121 (hM.1 1 (10, 1605) rfl) (by decide) (by decide) (nI (aN A)) (hRc.2.1.trans (by rw [g2])) ?_
        refine r_ifN_le hX dX10_buys_122 (by omega) (fun c13 => ?_) (fun c13 => ?_)
        · skip
          exact r_return hX hQ dX10_buys_180 ⟨Nat.le_of_ble_eq_true rfl, Nat.le_of_ble_eq_true rfl⟩ (PV.mk (by have hw : byW A = false := (by unfold byW; rw [hF, hcz]; simp; omega); refine ⟨by rw [← ht0]; exact f17c, by unfold byR; rw [if_neg (by rw [hw]; decide)]; exact f18c, ?_, (S1.tr (S1.up hSb (Or.inr rfl)) hO11.s1)⟩; unfold byE; rw [if_neg (by rw [hw]; decide)]; exact hRc))
        · skip
          refine r_aload_n hX dX10_buys_125 rfl ?_
          refine r_getR hX dX10_buys_126 fl_X10_9 (hM.1 0 (9, 0) rfl) rfl (hM.2 0 1 rfl) ?_
          refine r_iconst hX (nI 2) dX10_buys_129 rfl ?_
          refine r_aldN hX dX10_buys_130 (hM.1 1 (10, 1605) rfl) (by decide) (by decide) (nI (aW A)) (hRc.2.2.1.trans (by rw [g3])) ?_
          refine r_bipush hX (nI 24) dX10_buys_131 rfl ?_
          refine r_icmpN_ge hX dX10_buys_133 (by omega) (by decide) (fun c14 => ?_) (fun c14 => ?_)
          · skip
            exact r_return hX hQ dX10_buys_180 ⟨Nat.le_of_ble_eq_true rfl, Nat.le_of_ble_eq_true rfl⟩ (PV.mk (by have hw : byW A = false := (by unfold byW; rw [hF, hcz]; simp; omega); refine ⟨by rw [← ht0]; exact f17c, by unfold byR; rw [if_neg (by rw [hw]; decide)]; exact f18c, ?_, (S1.tr (S1.up hSb (Or.inr rfl)) hO11.s1)⟩; unfold byE; rw [if_neg (by rw [hw]; decide)]; exact hRc))
          · skip
            refine r_aload_n hX dX10_buys_136 rfl ?_
            refine r_aload_n hX dX10_buys_137 rfl ?_
            refine r_getR hX dX10_buys_138 fl_X10_9 (hM.1 0 (9, 0) rfl) rfl (hM.2 0 1 rfl) ?_
            refine r_iload_n hX dX10_buys_141 rfl ?_
            refine r_aldN hX dX10_buys_142 (hM.1 1 (10, 1605) rfl) (by decide) (by omega) (nI (aO A t)) ((hRc.2.2.2.2.2.1 t (by omega)).1.trans (by rw [hOc])) ?_
            refine r_bipush hX (nI 20) dX10_buys_143 rfl ?_
            refine r_idivN hX dX10_buys_145 (by omega) (by decide) (by decide) ?_
            refine r_iconst hX (nI 1) dX10_buys_146 rfl ?_
            refine r_iaddN hX dX10_buys_147 ?_
            refine r_iconst hX (nI 5) dX10_buys_148 rfl ?_
            refine r_callSF (As := [.int (nI (((aO A t) / 20) + 1)), .int (nI 5)]) (rest := [.ref (L.1 0)]) hX (c_X10_heldN σ8 (((aO A t) / 20) + 1) 5 (by omega) (by decide)) dX10_buys_149 cb_X10_120 rfl rfl ⟨Nat.le_of_ble_eq_true rfl, Nat.le_of_ble_eq_true rfl⟩ ⟨Nat.le_of_ble_eq_true rfl, Nat.le_of_ble_eq_true rfl⟩ (Nat.le_of_ble_eq_true rfl) ?_
            refine r_putI hX dX10_buys_152 fl_X10_226 (hM.1 0 (9, 0) rfl) rfl rfl rfl rfl ?_
            refine r_aload_n hX dX10_buys_155 rfl ?_
            refine r_iconst hX (nI 1) dX10_buys_156 rfl ?_
            refine r_aload_n hX dX10_buys_157 rfl ?_
            refine r_getIV hX dX10_buys_158 fl_X10_223 (hM.1 0 (9, 0) rfl) rfl (nI t) (by rw [up_n (by omega)]; exact f17c) ?_
            refine r_aload_n hX dX10_buys_161 rfl ?_
            refine r_callVI (As := []) (rest := [.int (nI t), .int (nI 1), .ref (L.1 0)]) hX (c_X10_draw hM (up σ8 0 18 (nI (min 5 (((aO A t) / 20) + 1)))) (byC A) (by rw [up_row (by decide)]; exact hRc) hVc) dX10_buys_162 cb_X10_219 (hM.1 0 (9, 0) rfl) rfl rfl ⟨Nat.le_of_ble_eq_true rfl, Nat.le_of_ble_eq_true rfl⟩ ⟨Nat.le_of_ble_eq_true rfl, Nat.le_of_ble_eq_true rfl⟩ (Nat.le_of_ble_eq_true rfl) (fun r15 σ16 h17 => ?_)
            obtain ⟨rfl, hR18, hO19⟩ := h17
            have := drN_lt (aZ (drA (byC A)))
            have f17d : σ16 0 17 = nI t := by rw [hO19 0 17 (by decide), up_n (by omega)]; exact f17c
            have f18d : σ16 0 18 = nI (min 5 (aO A t / 20 + 1)) := by rw [hO19 0 18 (by decide), up_s]
            refine r_aload_n hX dX10_buys_165 rfl ?_
            refine r_getR hX dX10_buys_166 fl_X10_9 (hM.1 0 (9, 0) rfl) rfl (hM.2 0 1 rfl) ?_
            refine r_iconst hX (nI 1) dX10_buys_169 rfl ?_
            refine r_aldN hX dX10_buys_170 (hM.1 1 (10, 1605) rfl) (by decide) (by decide) (nI (aN A)) (hR18.2.1.trans (by rw [aN_drA, g2])) ?_
            refine r_iremN hX dX10_buys_171 (by omega) (by omega) (by omega) ?_
            refine r_iload_n hX dX10_buys_172 rfl ?_
            refine r_aload_n hX dX10_buys_173 rfl ?_
            refine r_getIV hX dX10_buys_174 fl_X10_226 (hM.1 0 (9, 0) rfl) rfl (nI (min 5 (aO A t / 20 + 1))) f18d ?_
            refine r_callVV (As := [.int (nI 1), .int (nI t), .int (nI ((drN (aZ (drA (byC A)))) % (aN A))), .int (nI h), .int (nI (min 5 (aO A t / 20 + 1)))]) (rest := []) hX (c_X10_adds hM σ16 (drA (byC A)) hR18 (va_setZ hVc) 1 t ((drN (aZ (drA (byC A)))) % (aN A)) h (min 5 (aO A t / 20 + 1)) (by rw [aW_drA]; omega)) dX10_buys_177 cb_X10_99 (hM.1 0 (9, 0) rfl) rfl rfl ⟨Nat.le_of_ble_eq_true rfl, Nat.le_of_ble_eq_true rfl⟩ ⟨Nat.le_of_ble_eq_true rfl, Nat.le_of_ble_eq_true rfl⟩ (Nat.le_of_ble_eq_true rfl) (fun σ20 h21 => ?_)
            obtain ⟨hR22, hO23⟩ := h21
            exact r_return hX hQ dX10_buys_180 ⟨Nat.le_of_ble_eq_true rfl, Nat.le_of_ble_eq_true rfl⟩ (PV.mk (by have hw : byW A = true := (by unfold byW; rw [hF, hcz]; simp; omega); have hs : byS A = min 5 (aO A t / 20 + 1) := (by unfold byS; rw [← ht0]); refine ⟨by rw [← ht0]; exact ((hO23 0 17 (by decide)).trans f17d), by unfold byR; rw [if_pos hw, hs]; exact ((hO23 0 18 (by decide)).trans f18d), ?_, (S1.tr (S1.tr (S1.up (S1.tr (S1.up hSb (Or.inr rfl)) hO11.s1) (Or.inr rfl)) hO19.s1) hO23.s1)⟩; unfold byE; rw [if_pos hw, hs, ← ht0]; exact hR22))
    · skip
      rw [mnI_1 hcw]
      refine r_istore_n hX [(0, .ref (L.1 0)), (1, .int (nI h)), (2, .int (nI (5 + (2 * t)))), (3, .int (nI (mn (byB A) t)))] dX10_buys_73 hN3 rfl ?_
      refine r_iload_n hX dX10_buys_74 rfl ?_
      refine r_ldc hX dX10_buys_75 ko_X10_92 ?_
      refine r_icmp_ne hX dX10_buys_77 (fun c24 => ?_) (fun c24 => absurd c24 (nneg_ne (by omega) (by decide)))
      refine r_aload_n hX dX10_buys_85 rfl ?_
      refine r_getR hX dX10_buys_86 fl_X10_9 (hM.1 0 (9, 0) rfl) rfl (hM.2 0 1 rfl) ?_
      refine r_iload_n hX dX10_buys_89 rfl ?_
      refine r_aldN hX dX10_buys_90 (hM.1 1 (10, 1605) rfl) (by decide) (by omega) (nI (aO A t)) ((hRb.2.2.2.2.2.1 t (by omega)).1.trans (by rw [hOb])) ?_
      refine r_iload_n hX dX10_buys_91 rfl ?_
      refine r_iconst hX (nI 5) dX10_buys_92 rfl ?_
      refine r_idivN hX dX10_buys_93 (by omega) (by decide) (by decide) ?_
      refine r_callSF (As := [.int (nI (aO A t)), .int (nI ((mn (byB A) t) / 5))]) (rest := []) hX (c_X10_apart σb (aO A t) ((mn (byB A) t) / 5) (by omega) (by omega)) dX10_buys_94 cb_X10_196 rfl rfl ⟨Nat.le_of_ble_eq_true rfl, Nat.le_of_ble_eq_true rfl⟩ ⟨Nat.le_of_ble_eq_true rfl, Nat.le_of_ble_eq_true rfl⟩ (Nat.le_of_ble_eq_true rfl) ?_
      have hF : byF A = apN (aO A t) ((mn (byB A) t) / 5) := by unfold byF; rw [← ht0, if_neg hcw]
      obtain ⟨far, hfar⟩ : ∃ z, z = apN (aO A t) ((mn (byB A) t) / 5) := ⟨_, rfl⟩
      rw [← hfar] at hF ⊢
      have hfl : far < 2 ^ 31 := by rw [hfar]; exact Nat.lt_of_le_of_lt (apN_le (m := 500) (by omega) (by omega)) (by decide)
      refine r_istore hX [(0, .ref (L.1 0)), (1, .int (nI h)), (2, .int (nI (5 + (2 * t)))), (3, .int (nI (mn (byB A) t))), (4, .int (nI far))] dX10_buys_97 hN4 rfl ?_
      refine r_aload_n hX dX10_buys_99 rfl ?_
      refine r_iconst hX (nI 0) dX10_buys_100 rfl ?_
      refine r_putI hX dX10_buys_101 fl_X10_226 (hM.1 0 (9, 0) rfl) rfl rfl rfl rfl ?_
      refine r_aload_n hX dX10_buys_104 rfl ?_
      refine r_callVI (As := []) (rest := []) hX (c_X10_draw hM (up σb 0 18 (nI 0)) (byB A) (by rw [up_row (by decide)]; exact hRb) hVb) dX10_buys_105 cb_X10_219 (hM.1 0 (9, 0) rfl) rfl rfl ⟨Nat.le_of_ble_eq_true rfl, Nat.le_of_ble_eq_true rfl⟩ ⟨Nat.le_of_ble_eq_true rfl, Nat.le_of_ble_eq_true rfl⟩ (Nat.le_of_ble_eq_true rfl) (fun r25 σ26 h27 => ?_)
      obtain ⟨rfl, hR28, hO29⟩ := h27
      have := drN_lt (aZ (drA (byB A)))
      have hRc : RM (σ26 1) (byC A) := by unfold byC; exact hR28
      have hVc := va_byC hV
      obtain ⟨g1, g2, g3⟩ := byC_same A
      have f17c : σ26 0 17 = nI t := by rw [hO29 0 17 (by decide), up_n (by omega)]; exact f17
      have f18c : σ26 0 18 = nI 0 := by rw [hO29 0 18 (by decide), up_s]
      have hcz : aZ (byC A) = aZ (drA (byB A)) := by unfold byC; rfl
      have hOc : aO (byC A) = aO A := by unfold byC; rw [aO_drA]; exact hOb
      refine r_bipush hX (nI 100) dX10_buys_108 rfl ?_
      refine r_iremN hX dX10_buys_110 (by omega) (by decide) (by decide) ?_
      refine r_iload hX dX10_buys_111 rfl ?_
      refine r_icmpN_ge hX dX10_buys_113 (by omega) (by omega) (fun c30 => ?_) (fun c30 => ?_)
      · skip
        exact r_return hX hQ dX10_buys_180 ⟨Nat.le_of_ble_eq_true rfl, Nat.le_of_ble_eq_true rfl⟩ (PV.mk (by have hw : byW A = false := (by unfold byW; rw [hF, hcz]; simp; omega); refine ⟨by rw [← ht0]; exact f17c, by unfold byR; rw [if_neg (by rw [hw]; decide)]; exact f18c, ?_, (S1.tr (S1.up hSb (Or.inr rfl)) hO29.s1)⟩; unfold byE; rw [if_neg (by rw [hw]; decide)]; exact hRc))
      · skip
        refine r_aload_n hX dX10_buys_116 rfl ?_
        refine r_getR hX dX10_buys_117 fl_X10_9 (hM.1 0 (9, 0) rfl) rfl (hM.2 0 1 rfl) ?_
        refine r_iconst hX (nI 1) dX10_buys_120 rfl ?_
        refine r_aldN hX dX10_buys_121 (hM.1 1 (10, 1605) rfl) (by decide) (by decide) (nI (aN A)) (hRc.2.1.trans (by rw [g2])) ?_
        refine r_ifN_le hX dX10_buys_122 (by omega) (fun c31 => ?_) (fun c31 => ?_)
        · skip
          exact r_return hX hQ dX10_buys_180 ⟨Nat.le_of_ble_eq_true rfl, Nat.le_of_ble_eq_true rfl⟩ (PV.mk (by have hw : byW A = false := (by unfold byW; rw [hF, hcz]; simp; omega); refine ⟨by rw [← ht0]; exact f17c, by unfold byR; rw [if_neg (by rw [hw]; decide)]; exact f18c, ?_, (S1.tr (S1.up hSb (Or.inr rfl)) hO29.s1)⟩; unfold byE; rw [if_neg (by rw [hw]; decide)]; exact hRc))
        · skip
          refine r_aload_n hX dX10_buys_125 rfl ?_
          refine r_getR hX dX10_buys_126 fl_X10_9 (hM.1 0 (9, 0) rfl) rfl (hM.2 0 1 rfl) ?_
          refine r_iconst hX (nI 2) dX10_buys_129 rfl ?_
          refine r_aldN hX dX10_buys_130 (hM.1 1 (10, 1605) rfl) (by decide) (by decide) (nI (aW A)) (hRc.2.2.1.trans (by rw [g3])) ?_
          refine r_bipush hX (nI 24) dX10_buys_131 rfl ?_
          refine r_icmpN_ge hX dX10_buys_133 (by omega) (by decide) (fun c32 => ?_) (fun c32 => ?_)
          · skip
            exact r_return hX hQ dX10_buys_180 ⟨Nat.le_of_ble_eq_true rfl, Nat.le_of_ble_eq_true rfl⟩ (PV.mk (by have hw : byW A = false := (by unfold byW; rw [hF, hcz]; simp; omega); refine ⟨by rw [← ht0]; exact f17c, by unfold byR; rw [if_neg (by rw [hw]; decide)]; exact f18c, ?_, (S1.tr (S1.up hSb (Or.inr rfl)) hO29.s1)⟩; unfold byE; rw [if_neg (by rw [hw]; decide)]; exact hRc))
          · skip
            refine r_aload_n hX dX10_buys_136 rfl ?_
            refine r_aload_n hX dX10_buys_137 rfl ?_
            refine r_getR hX dX10_buys_138 fl_X10_9 (hM.1 0 (9, 0) rfl) rfl (hM.2 0 1 rfl) ?_
            refine r_iload_n hX dX10_buys_141 rfl ?_
            refine r_aldN hX dX10_buys_142 (hM.1 1 (10, 1605) rfl) (by decide) (by omega) (nI (aO A t)) ((hRc.2.2.2.2.2.1 t (by omega)).1.trans (by rw [hOc])) ?_
            refine r_bipush hX (nI 20) dX10_buys_143 rfl ?_
            refine r_idivN hX dX10_buys_145 (by omega) (by decide) (by decide) ?_
            refine r_iconst hX (nI 1) dX10_buys_146 rfl ?_
            refine r_iaddN hX dX10_buys_147 ?_
            refine r_iconst hX (nI 5) dX10_buys_148 rfl ?_
            refine r_callSF (As := [.int (nI (((aO A t) / 20) + 1)), .int (nI 5)]) (rest := [.ref (L.1 0)]) hX (c_X10_heldN σ26 (((aO A t) / 20) + 1) 5 (by omega) (by decide)) dX10_buys_149 cb_X10_120 rfl rfl ⟨Nat.le_of_ble_eq_true rfl, Nat.le_of_ble_eq_true rfl⟩ ⟨Nat.le_of_ble_eq_true rfl, Nat.le_of_ble_eq_true rfl⟩ (Nat.le_of_ble_eq_true rfl) ?_
            refine r_putI hX dX10_buys_152 fl_X10_226 (hM.1 0 (9, 0) rfl) rfl rfl rfl rfl ?_
            refine r_aload_n hX dX10_buys_155 rfl ?_
            refine r_iconst hX (nI 1) dX10_buys_156 rfl ?_
            refine r_aload_n hX dX10_buys_157 rfl ?_
            refine r_getIV hX dX10_buys_158 fl_X10_223 (hM.1 0 (9, 0) rfl) rfl (nI t) (by rw [up_n (by omega)]; exact f17c) ?_
            refine r_aload_n hX dX10_buys_161 rfl ?_
            refine r_callVI (As := []) (rest := [.int (nI t), .int (nI 1), .ref (L.1 0)]) hX (c_X10_draw hM (up σ26 0 18 (nI (min 5 (((aO A t) / 20) + 1)))) (byC A) (by rw [up_row (by decide)]; exact hRc) hVc) dX10_buys_162 cb_X10_219 (hM.1 0 (9, 0) rfl) rfl rfl ⟨Nat.le_of_ble_eq_true rfl, Nat.le_of_ble_eq_true rfl⟩ ⟨Nat.le_of_ble_eq_true rfl, Nat.le_of_ble_eq_true rfl⟩ (Nat.le_of_ble_eq_true rfl) (fun r33 σ34 h35 => ?_)
            obtain ⟨rfl, hR36, hO37⟩ := h35
            have := drN_lt (aZ (drA (byC A)))
            have f17d : σ34 0 17 = nI t := by rw [hO37 0 17 (by decide), up_n (by omega)]; exact f17c
            have f18d : σ34 0 18 = nI (min 5 (aO A t / 20 + 1)) := by rw [hO37 0 18 (by decide), up_s]
            refine r_aload_n hX dX10_buys_165 rfl ?_
            refine r_getR hX dX10_buys_166 fl_X10_9 (hM.1 0 (9, 0) rfl) rfl (hM.2 0 1 rfl) ?_
            refine r_iconst hX (nI 1) dX10_buys_169 rfl ?_
            refine r_aldN hX dX10_buys_170 (hM.1 1 (10, 1605) rfl) (by decide) (by decide) (nI (aN A)) (hR36.2.1.trans (by rw [aN_drA, g2])) ?_
            refine r_iremN hX dX10_buys_171 (by omega) (by omega) (by omega) ?_
            refine r_iload_n hX dX10_buys_172 rfl ?_
            refine r_aload_n hX dX10_buys_173 rfl ?_
            refine r_getIV hX dX10_buys_174 fl_X10_226 (hM.1 0 (9, 0) rfl) rfl (nI (min 5 (aO A t / 20 + 1))) f18d ?_
            refine r_callVV (As := [.int (nI 1), .int (nI t), .int (nI ((drN (aZ (drA (byC A)))) % (aN A))), .int (nI h), .int (nI (min 5 (aO A t / 20 + 1)))]) (rest := []) hX (c_X10_adds hM σ34 (drA (byC A)) hR36 (va_setZ hVc) 1 t ((drN (aZ (drA (byC A)))) % (aN A)) h (min 5 (aO A t / 20 + 1)) (by rw [aW_drA]; omega)) dX10_buys_177 cb_X10_99 (hM.1 0 (9, 0) rfl) rfl rfl ⟨Nat.le_of_ble_eq_true rfl, Nat.le_of_ble_eq_true rfl⟩ ⟨Nat.le_of_ble_eq_true rfl, Nat.le_of_ble_eq_true rfl⟩ (Nat.le_of_ble_eq_true rfl) (fun σ38 h39 => ?_)
            obtain ⟨hR40, hO41⟩ := h39
            exact r_return hX hQ dX10_buys_180 ⟨Nat.le_of_ble_eq_true rfl, Nat.le_of_ble_eq_true rfl⟩ (PV.mk (by have hw : byW A = true := (by unfold byW; rw [hF, hcz]; simp; omega); have hs : byS A = min 5 (aO A t / 20 + 1) := (by unfold byS; rw [← ht0]); refine ⟨by rw [← ht0]; exact ((hO41 0 17 (by decide)).trans f17d), by unfold byR; rw [if_pos hw, hs]; exact ((hO41 0 18 (by decide)).trans f18d), ?_, (S1.tr (S1.tr (S1.up (S1.tr (S1.up hSb (Or.inr rfl)) hO29.s1) (Or.inr rfl)) hO37.s1) hO41.s1)⟩; unfold byE; rw [if_pos hw, hs, ← ht0]; exact hR40))
  refine r_ifN_ne hX dX10_buys_7 (by omega) (fun c42 => ?_) (fun c42 => ?_)
  · skip
    refine r_aload_n hX dX10_buys_24 rfl ?_
    refine r_iconst hX (nI 0) dX10_buys_25 rfl ?_
    refine r_callVI (As := [.int (nI 0)]) (rest := [.ref (L.1 0)]) hX (c_X10_shelfAt hM σ2 (drA A) hR4 (va_setZ hV) (nI 0)) dX10_buys_26 cb_X10_193 (hM.1 0 (9, 0) rfl) rfl rfl ⟨Nat.le_of_ble_eq_true rfl, Nat.le_of_ble_eq_true rfl⟩ ⟨Nat.le_of_ble_eq_true rfl, Nat.le_of_ble_eq_true rfl⟩ (Nat.le_of_ble_eq_true rfl) (fun r43 σ44 h45 => ?_)
    obtain ⟨rfl, hS46⟩ := h45
    have hR47 := hS46.rm hR4
    rw [show aT (drA A) = aT A from aT_drA A, (topN_ok (shI (drA A)) hT0 (by omega)).2]
    have hbt : byT A = (topN (shI (drA A)) (aT A), drA A) := by unfold byT; rw [if_neg c42]
    rw [hbt] at J
    exact J _ hR47 (S1.tr (S1.tr (S1.rf σ) hO5.s1) hS46.s1)
  · skip
    refine r_aload_n hX dX10_buys_10 rfl ?_
    refine r_callVI (As := []) (rest := [.ref (L.1 0)]) hX (c_X10_draw hM σ2 (drA A) hR4 (va_setZ hV)) dX10_buys_11 cb_X10_219 (hM.1 0 (9, 0) rfl) rfl rfl ⟨Nat.le_of_ble_eq_true rfl, Nat.le_of_ble_eq_true rfl⟩ ⟨Nat.le_of_ble_eq_true rfl, Nat.le_of_ble_eq_true rfl⟩ (Nat.le_of_ble_eq_true rfl) (fun r48 σ49 h50 => ?_)
    obtain ⟨rfl, hR51, hO52⟩ := h50
    have := drN_lt (aZ (drA (drA A)))
    refine r_aload_n hX dX10_buys_14 rfl ?_
    refine r_getR hX dX10_buys_15 fl_X10_9 (hM.1 0 (9, 0) rfl) rfl (hM.2 0 1 rfl) ?_
    refine r_iconst hX (nI 0) dX10_buys_18 rfl ?_
    refine r_aldN hX dX10_buys_19 (hM.1 1 (10, 1605) rfl) (by decide) (by decide) (nI (aT A)) (hR51.1.trans (by rw [aT_drA, aT_drA])) ?_
    refine r_iremN hX dX10_buys_20 (by omega) (by omega) (by omega) ?_
    refine r_goto hX dX10_buys_21 ?_
    have hbt : byT A = (drN (aZ (drA (drA A))) % aT A, drA (drA A)) := by unfold byT; rw [if_pos c42]
    rw [hbt] at J
    exact J _ hR51 (S1.tr (S1.tr (S1.rf σ) hO5.s1) hO52.s1)
