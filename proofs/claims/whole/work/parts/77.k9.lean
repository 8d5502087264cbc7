set_option maxHeartbeats 4000000 in
set_option maxRecDepth 100000 in
theorem c_X3_draw {l : Launch} {D : Ds} {L : La}  (b : Nat) (hC : RAt L b) (σ : Me) (A : Al) (h0 : R0 σ b A) (hW : RW σ b A) (hTx : RX' L σ b A) (hV : Va A) : Ct l yX3_draw cX3_draw 1 (some .int) { frames := 0, cells := 0, slots := 0, locals := 0 } D L σ [.ref (L.1 (b + 0))] (PI L (fun r σ2 => r = nI (drN (aZ (drA A))) ∧ RC L σ2 b (drA A) ∧ Cb b σ σ2)) := by
  refine Ct.of (by decide) (Nat.le_of_ble_eq_true rfl) ?_
  intro X hl hD hnl hX0 hQ
  have hX : Ok X cX3_draw RX3 "draw" { frames := 0, cells := 0, slots := 0, locals := 0 } (some .int) := hX0
  have hbb := hC.2.2
  have hW24 := hV.2.2.1
  have hT6 := hV.1
  have hN12 := hV.2.1
  have hX14 := hV.2.2.2.1
  show At X L σ 0 0 [(0, .ref (L.1 (b + 0)))] 0 []
  refine r_aload_n hX dX3_draw_0 rfl ?_
  refine r_aload_n hX dX3_draw_1 rfl ?_
  refine r_getIV hX dX3_draw_2 fl_X3_47 (hC.1 0 (2, 0) rfl) rfl (aZ A) h0.2.2.2.1 ?_
  refine r_ldc hX dX3_draw_5 ko_X3_155 ?_
  refine r_imul hX dX3_draw_7 ?_
  refine r_sipush hX (nI 12345) dX3_draw_8 rfl ?_
  refine r_iadd hX dX3_draw_11 ?_
  refine r_putI hX dX3_draw_12 fl_X3_47 (hC.1 0 (2, 0) rfl) rfl rfl rfl rfl ?_
  refine r_aload_n hX dX3_draw_15 rfl ?_
  refine r_getIV hX dX3_draw_16 fl_X3_47 (hC.1 0 (2, 0) rfl) rfl (((aZ A) * 1103515245) + (nI 12345)) up_s ?_
  refine r_bipush hX (nI 8) dX3_draw_19 rfl ?_
  refine r_iushr hX dX3_draw_21 ?_
  exact r_ireturn hX hQ dX3_draw_22 ⟨Nat.le_of_ble_eq_true rfl, Nat.le_of_ble_eq_true rfl⟩ (PI.mk ⟨by rw [aZ_drA, dz_eq]; exact ushr8 _, ⟨by rw [← dz_eq]; exact r0_setZ h0 _, RW.al (RW.kept hW (fun c i hc => up_n (by omega))) rfl rfl, RX'.al (RX'.kept hTx (fun c i h1 h2 => up_n (by omega))) rfl⟩, (Cb.up (Cb.rf b σ) (by omega))⟩)

set_option maxHeartbeats 4000000 in
set_option maxRecDepth 100000 in
theorem c_X3_buyerComes {l : Launch} {D : Ds} {L : La}  (b : Nat) (hC : RAt L b) (σ : Me) (A : Al) (h0 : R0 σ b A) (hW : RW σ b A) (hTx : RX' L σ b A) (hV : Va A) (h : Nat) (hT0 : 0 < aT A) (hh : h ≤ 999) : Ct l yX3_buyerComes cX3_buyerComes 7 (some .int) { frames := 5, cells := 0, slots := 0, locals := 123 } D L σ [.ref (L.1 (b + 0)), .int (nI h)] (PI L (fun r σ2 => r = nI (10 * (byT A).1 + byR A) ∧ RC L σ2 b (byE A h) ∧ Cb b σ σ2)) := by
  refine Ct.of (by decide) (Nat.le_of_ble_eq_true rfl) ?_
  intro X hl hD hnl hX0 hQ
  have hX : Ok X cX3_buyerComes RX3 "buyerComes" { frames := 5, cells := 0, slots := 0, locals := 123 } (some .int) := hX0
  have hN2 : 2 < xn X := by rw [hnl]; decide
  have hN3 : 3 < xn X := by rw [hnl]; decide
  have hN4 : 4 < xn X := by rw [hnl]; decide
  have hN5 : 5 < xn X := by rw [hnl]; decide
  have hN6 : 6 < xn X := by rw [hnl]; decide
  have hbb := hC.2.2
  have hW24 := hV.2.2.1
  have hT6 := hV.1
  have hN12 := hV.2.1
  have hX14 := hV.2.2.2.1
  show At X L σ 0 0 [(0, .ref (L.1 (b + 0))), (1, .int (nI h))] 0 []
  refine r_aload_n hX dX3_buyerComes_0 rfl ?_
  refine r_getIV hX dX3_buyerComes_1 fl_X3_9 (hC.1 0 (2, 0) rfl) rfl (nI (aT A)) h0.1 ?_
  refine r_ifN_ne hX dX3_buyerComes_4 (by omega) (fun c1 => ?_) (fun c1 => absurd c1 (by omega))
  refine r_aload_n hX dX3_buyerComes_9 rfl ?_
  refine r_callVI (As := []) (rest := []) hX (c_X3_draw b hC σ A h0 hW hTx hV) dX3_buyerComes_10 cb_X3_156 (hC.1 0 (2, 0) rfl) rfl rfl ⟨Nat.le_of_ble_eq_true rfl, Nat.le_of_ble_eq_true rfl⟩ ⟨Nat.le_of_ble_eq_true rfl, Nat.le_of_ble_eq_true rfl⟩ (Nat.le_of_ble_eq_true rfl) (fun r2 σ3 h4 => ?_)
  obtain ⟨rfl, hRC5, hS6⟩ := h4
  refine r_iconst hX (nI 3) dX3_buyerComes_13 rfl ?_
  refine r_iremN hX dX3_buyerComes_14 (by have := drN_lt (aZ (drA A)); omega) (by decide) (by decide) ?_
  refine r_ifN_ne hX dX3_buyerComes_15 (by omega) (fun c7 => ?_) (fun c7 => ?_)
  · skip
    refine r_aload_n hX dX3_buyerComes_31 rfl ?_
    refine r_callVV (As := []) (rest := []) hX (c_X3_rank b hC σ3 (drA A) hRC5.1 hRC5.2.1 hRC5.2.2 (va_setZ hV)) dX3_buyerComes_32 cb_X3_160 (hC.1 0 (2, 0) rfl) rfl rfl ⟨Nat.le_of_ble_eq_true rfl, Nat.le_of_ble_eq_true rfl⟩ ⟨Nat.le_of_ble_eq_true rfl, Nat.le_of_ble_eq_true rfl⟩ (Nat.le_of_ble_eq_true rfl) (fun σ8 h9 => ?_)
    obtain ⟨hP11, hS10⟩ := h9
    have g012 := R0.cs hRC5.1 hC hS10
    have gW13 := RW.cs hRC5.2.1 hC hS10
    have gX14 := RX'.cs hRC5.2.2 hS10
    refine r_iconst hX (nI 0) dX3_buyerComes_35 rfl ?_
    refine r_aload_n hX dX3_buyerComes_36 rfl ?_
    refine r_iconst hX (nI 0) dX3_buyerComes_37 rfl ?_
    refine r_callVF (As := [.int (nI 0)]) (rest := [.int (nI 0)]) hX (c_X3_atPlace b hC σ8 (drA A) g012 gW13 gX14 (va_setZ hV) (shI (drA A)) hP11 0 (by decide)) dX3_buyerComes_38 cb_X3_163 (hC.1 0 (2, 0) rfl) rfl rfl ⟨Nat.le_of_ble_eq_true rfl, Nat.le_of_ble_eq_true rfl⟩ ⟨Nat.le_of_ble_eq_true rfl, Nat.le_of_ble_eq_true rfl⟩ (Nat.le_of_ble_eq_true rfl) ?_
    refine r_max hX dX3_buyerComes_41 cb_X3_76 ⟨Nat.le_of_ble_eq_true rfl, Nat.le_of_ble_eq_true rfl⟩ ⟨Nat.le_of_ble_eq_true rfl, Nat.le_of_ble_eq_true rfl⟩ (Nat.le_of_ble_eq_true rfl) (nI (topN (shI (drA A)) (aT A))) (by rw [show aT (drA A) = aT A from aT_drA A, (topN_ok (shI (drA A)) hT0 (by omega)).2, mxI_n (by decide) (by have := (topN_ok (shI (drA A)) hT0 (by omega)).1; omega), Nat.max_eq_right (Nat.zero_le _)]) ?_
    refine r_istore_n hX [(0, .ref (L.1 (b + 0))), (1, .int (nI h)), (2, .int (nI (topN (shI (drA A)) (aT A))))] dX3_buyerComes_44 hN2 rfl ?_
    have hby : byT A = (topN (shI (drA A)) (aT A), (drA A)) := by unfold byT; rw [if_neg c7]
    have k0 : R0 σ8 b (byT A).2 := by rw [hby]; exact g012
    have kW : RW σ8 b (byT A).2 := by rw [hby]; exact gW13
    have kX : RX' L σ8 b (byT A).2 := by rw [hby]; exact gX14
    obtain ⟨t, ht0⟩ : ∃ t, t = (byT A).1 := ⟨_, rfl⟩
    rw [show topN (shI (drA A)) (aT A) = t by rw [ht0, hby]]
    have htl : t < aT A := by rw [ht0]; exact byT_lt hV hT0
    have hbu := (hV.2.2.2.2.1 t htl).2
    have hwo := (hV.2.2.2.2.1 t htl).1
    have hbs := byT_same A
    refine r_aload_n hX dX3_buyerComes_45 rfl ?_
    refine r_getR hX dX3_buyerComes_46 fl_X3_19 (hC.1 0 (2, 0) rfl) rfl (hC.2.1 0 2 2 rfl) ?_
    refine r_iload_n hX dX3_buyerComes_49 rfl ?_
    refine r_sipush hX (nI 9999) dX3_buyerComes_50 rfl ?_
    refine r_aload_n hX dX3_buyerComes_53 rfl ?_
    refine r_getR hX dX3_buyerComes_54 fl_X3_19 (hC.1 0 (2, 0) rfl) rfl (hC.2.1 0 2 2 rfl) ?_
    refine r_iload_n hX dX3_buyerComes_57 rfl ?_
    refine r_aldN hX dX3_buyerComes_58 (hC.1 2 (10, 6) rfl) (by decide) (by omega) (nI (aB A t)) ((k0.2.2.2.2.2.1 t (by rw [hbs.1]; exact htl)).trans (by rw [hbs.2.2.2.2])) ?_
    refine r_iconst hX (nI 1) dX3_buyerComes_59 rfl ?_
    refine r_iaddN hX dX3_buyerComes_60 ?_
    refine r_min hX dX3_buyerComes_61 cb_X3_70 ⟨Nat.le_of_ble_eq_true rfl, Nat.le_of_ble_eq_true rfl⟩ ⟨Nat.le_of_ble_eq_true rfl, Nat.le_of_ble_eq_true rfl⟩ (Nat.le_of_ble_eq_true rfl) (nI (min 9999 (aB A t + 1))) (miI_n (by decide) (by omega)) ?_
    refine r_astN hX dX3_buyerComes_64 (hC.1 2 (10, 6) rfl) (by decide) (by omega) ?_
    have m0 : R0 (up σ8 (b + 2) t (nI (min 9999 (aB A t + 1)))) b (byB A) := by unfold byB; rw [← ht0]; exact r0_setB k0
    have mW : RW (up σ8 (b + 2) t (nI (min 9999 (aB A t + 1)))) b (byB A) := RW.al (RW.kept kW (fun c i hc => up_n (by omega))) rfl rfl
    have mX : RX' L (up σ8 (b + 2) t (nI (min 9999 (aB A t + 1)))) b (byB A) := RX'.al (RX'.kept kX (fun c i h1 h2 => up_n (by omega))) rfl
    have hvB : Va (byB A) := va_setB (va_byT hV) (Nat.min_le_left _ _)
    have hmB := mn_le hvB t
    refine r_aload_n hX dX3_buyerComes_65 rfl ?_
    refine r_getR hX dX3_buyerComes_66 fl_X3_31 (hC.1 0 (2, 0) rfl) rfl (hC.2.1 0 5 4 rfl) ?_
    refine r_iload_n hX dX3_buyerComes_69 rfl ?_
    refine r_callVF (As := [.int (nI t)]) (rest := []) hX (c_X8_meanOf b hC (up σ8 (b + 2) t (nI (min 9999 (aB A t + 1)))) (byB A) mW hvB t (by omega)) dX3_buyerComes_70 cb_X3_166 (hC.1 4 (7, 0) rfl) rfl rfl ⟨Nat.le_of_ble_eq_true rfl, Nat.le_of_ble_eq_true rfl⟩ ⟨Nat.le_of_ble_eq_true rfl, Nat.le_of_ble_eq_true rfl⟩ (Nat.le_of_ble_eq_true rfl) ?_
    by_cases hcw : cw (byB A) 1 t (aW (byB A)) = 0
    · skip
      rw [mnI_0 hcw]
      have hF : byF A = 50 := by unfold byF; rw [← ht0, if_pos hcw]
      refine r_istore_n hX [(0, .ref (L.1 (b + 0))), (1, .int (nI h)), (2, .int (nI t)), (3, .int (-1000000005))] dX3_buyerComes_73 hN3 rfl ?_
      refine r_iload_n hX dX3_buyerComes_74 rfl ?_
      refine r_ldc hX dX3_buyerComes_75 ko_X3_124 ?_
      refine r_icmp_ne hX dX3_buyerComes_77 (fun c15 => absurd rfl c15) (fun c15 => ?_)
      refine r_bipush hX (nI 50) dX3_buyerComes_80 rfl ?_
      refine r_goto hX dX3_buyerComes_82 ?_
      refine r_istore hX [(0, .ref (L.1 (b + 0))), (1, .int (nI h)), (2, .int (nI t)), (3, .int (-1000000005)), (4, .int (nI 50))] dX3_buyerComes_98 hN4 rfl ?_
      refine r_aload_n hX dX3_buyerComes_100 rfl ?_
      refine r_callVI (As := []) (rest := []) hX (c_X3_draw b hC (up σ8 (b + 2) t (nI (min 9999 (aB A t + 1)))) (byB A) m0 mW mX hvB) dX3_buyerComes_101 cb_X3_156 (hC.1 0 (2, 0) rfl) rfl rfl ⟨Nat.le_of_ble_eq_true rfl, Nat.le_of_ble_eq_true rfl⟩ ⟨Nat.le_of_ble_eq_true rfl, Nat.le_of_ble_eq_true rfl⟩ (Nat.le_of_ble_eq_true rfl) (fun r16 σ17 h18 => ?_)
      obtain ⟨rfl, hRC19, hS20⟩ := h18
      have hRC19c : RC L σ17 b (byC A) := hRC19
      have hvC := va_byC hV
      have hcs := byC_same A
      refine r_bipush hX (nI 100) dX3_buyerComes_104 rfl ?_
      refine r_iremN hX dX3_buyerComes_106 (by have := drN_lt (aZ (drA (byB A))); omega) (by decide) (by decide) ?_
      refine r_iload hX dX3_buyerComes_107 rfl ?_
      refine r_icmpN_ge hX dX3_buyerComes_109 (by first | omega | (unfold apN; split <;> omega)) (by decide) (fun c21 => ?_) (fun c21 => ?_)
      · skip
        refine r_iconst hX (nI 0) dX3_buyerComes_116 rfl ?_
        refine r_istore hX [(0, .ref (L.1 (b + 0))), (1, .int (nI h)), (2, .int (nI t)), (3, .int (-1000000005)), (4, .int (nI 50)), (5, .int (nI 0))] dX3_buyerComes_117 hN5 rfl ?_
        refine r_iload hX dX3_buyerComes_119 rfl ?_
        refine r_ifN_eq hX dX3_buyerComes_121 (by decide) (fun c22 => ?_) (fun c22 => absurd c22 (by decide))
        refine r_bipush hX (nI 10) dX3_buyerComes_141 rfl ?_
        refine r_iload_n hX dX3_buyerComes_143 rfl ?_
        refine r_imulN hX dX3_buyerComes_144 ?_
        exact r_ireturn hX hQ dX3_buyerComes_145 ⟨Nat.le_of_ble_eq_true rfl, Nat.le_of_ble_eq_true rfl⟩ (PI.mk (by have hw : byW A = false := (by unfold byW; rw [hF, decide_eq_false (show ¬ drN (aZ (byC A)) % 100 < _ from Nat.not_lt.mpr c21)]; rfl); refine ⟨by unfold byR; rw [if_neg (by rw [hw]; decide), ← ht0]; rfl, ?_, (Cb.tr (Cb.up (Cb.tr (Cb.tr (Cb.rf b σ) hS6) hS10.cb) (by omega)) hS20)⟩; unfold byE; rw [if_neg (by rw [hw]; decide)]; exact hRC19c))
      · skip
        refine r_iconst hX (nI 1) dX3_buyerComes_112 rfl ?_
        refine r_goto hX dX3_buyerComes_113 ?_
        refine r_istore hX [(0, .ref (L.1 (b + 0))), (1, .int (nI h)), (2, .int (nI t)), (3, .int (-1000000005)), (4, .int (nI 50)), (5, .int (nI 1))] dX3_buyerComes_117 hN5 rfl ?_
        refine r_iload hX dX3_buyerComes_119 rfl ?_
        refine r_ifN_eq hX dX3_buyerComes_121 (by decide) (fun c23 => absurd c23 (by decide)) (fun c23 => ?_)
        refine r_aload_n hX dX3_buyerComes_124 rfl ?_
        refine r_getIV hX dX3_buyerComes_125 fl_X3_22 (hC.1 0 (2, 0) rfl) rfl (nI (aN A)) (hRC19c.1.2.1.trans (by rw [(byC_same A).2.1])) ?_
        refine r_ifN_eq hX dX3_buyerComes_128 (by omega) (fun c24 => ?_) (fun c24 => ?_)
        · skip
          refine r_bipush hX (nI 10) dX3_buyerComes_141 rfl ?_
          refine r_iload_n hX dX3_buyerComes_143 rfl ?_
          refine r_imulN hX dX3_buyerComes_144 ?_
          exact r_ireturn hX hQ dX3_buyerComes_145 ⟨Nat.le_of_ble_eq_true rfl, Nat.le_of_ble_eq_true rfl⟩ (PI.mk (by have hw : byW A = false := (by unfold byW; rw [decide_eq_false (show ¬ 0 < aN A by omega), Bool.and_false]; rfl); refine ⟨by unfold byR; rw [if_neg (by rw [hw]; decide), ← ht0]; rfl, ?_, (Cb.tr (Cb.up (Cb.tr (Cb.tr (Cb.rf b σ) hS6) hS10.cb) (by omega)) hS20)⟩; unfold byE; rw [if_neg (by rw [hw]; decide)]; exact hRC19c))
        · skip
          refine r_aload_n hX dX3_buyerComes_131 rfl ?_
          refine r_getR hX dX3_buyerComes_132 fl_X3_31 (hC.1 0 (2, 0) rfl) rfl (hC.2.1 0 5 4 rfl) ?_
          refine r_callVF (As := []) (rest := []) hX (c_X8_room b hC σ17 (byC A) hRC19c.2.1 hvC) dX3_buyerComes_135 cb_X3_172 (hC.1 4 (7, 0) rfl) rfl rfl ⟨Nat.le_of_ble_eq_true rfl, Nat.le_of_ble_eq_true rfl⟩ ⟨Nat.le_of_ble_eq_true rfl, Nat.le_of_ble_eq_true rfl⟩ (Nat.le_of_ble_eq_true rfl) ?_
          refine r_ifN_ne hX dX3_buyerComes_138 (by omega) (fun c25 => ?_) (fun c25 => ?_)
          · skip
            refine r_iconst hX (nI 5) dX3_buyerComes_146 rfl ?_
            refine r_aload_n hX dX3_buyerComes_147 rfl ?_
            refine r_getR hX dX3_buyerComes_148 fl_X3_15 (hC.1 0 (2, 0) rfl) rfl (hC.2.1 0 1 1 rfl) ?_
            refine r_iload_n hX dX3_buyerComes_151 rfl ?_
            refine r_aldN hX dX3_buyerComes_152 (hC.1 1 (10, 6) rfl) (by decide) (by omega) (nI (aO A t)) ((hRC19c.1.2.2.2.2.1 t (show t < aT (byT A).2 by rw [hbs.1]; exact htl)).trans (show nI (aO (byT A).2 t) = nI (aO A t) by rw [hbs.2.2.2.1])) ?_
            refine r_bipush hX (nI 20) dX3_buyerComes_153 rfl ?_
            refine r_idivN hX dX3_buyerComes_155 (by omega) (by decide) (by decide) ?_
            refine r_iconst hX (nI 1) dX3_buyerComes_156 rfl ?_
            refine r_iaddN hX dX3_buyerComes_157 ?_
            refine r_min hX dX3_buyerComes_158 cb_X3_70 ⟨Nat.le_of_ble_eq_true rfl, Nat.le_of_ble_eq_true rfl⟩ ⟨Nat.le_of_ble_eq_true rfl, Nat.le_of_ble_eq_true rfl⟩ (Nat.le_of_ble_eq_true rfl) (nI (min 5 (((aO A t) / 20) + 1))) (miI_n (by decide) (by omega)) ?_
            refine r_istore hX [(0, .ref (L.1 (b + 0))), (1, .int (nI h)), (2, .int (nI t)), (3, .int (-1000000005)), (4, .int (nI 50)), (5, .int (nI 1)), (6, .int (nI (min 5 (((aO A t) / 20) + 1))))] dX3_buyerComes_161 hN6 rfl ?_
            refine r_aload_n hX dX3_buyerComes_163 rfl ?_
            refine r_getR hX dX3_buyerComes_164 fl_X3_31 (hC.1 0 (2, 0) rfl) rfl (hC.2.1 0 5 4 rfl) ?_
            refine r_iconst hX (nI 1) dX3_buyerComes_167 rfl ?_
            refine r_iload_n hX dX3_buyerComes_168 rfl ?_
            refine r_aload_n hX dX3_buyerComes_169 rfl ?_
            refine r_callVI (As := []) (rest := [.int (nI t), .int (nI 1), .ref (L.1 (b + 4))]) hX (c_X3_draw b hC σ17 (byC A) hRC19c.1 hRC19c.2.1 hRC19c.2.2 hvC) dX3_buyerComes_170 cb_X3_156 (hC.1 0 (2, 0) rfl) rfl rfl ⟨Nat.le_of_ble_eq_true rfl, Nat.le_of_ble_eq_true rfl⟩ ⟨Nat.le_of_ble_eq_true rfl, Nat.le_of_ble_eq_true rfl⟩ (Nat.le_of_ble_eq_true rfl) (fun r26 σ27 h28 => ?_)
            obtain ⟨rfl, hRC29, hS30⟩ := h28
            refine r_aload_n hX dX3_buyerComes_173 rfl ?_
            refine r_getIV hX dX3_buyerComes_174 fl_X3_22 (hC.1 0 (2, 0) rfl) rfl (nI (aN A)) (hRC29.1.2.1.trans (by rw [aN_drA, (byC_same A).2.1])) ?_
            refine r_iremN hX dX3_buyerComes_177 (by have := drN_lt (aZ (drA (byC A))); omega) (by omega) (by omega) ?_
            refine r_iload_n hX dX3_buyerComes_178 rfl ?_
            refine r_iload hX dX3_buyerComes_179 rfl ?_
            refine r_callVI (As := [.int (nI 1), .int (nI t), .int (nI ((drN (aZ (drA (byC A)))) % (aN A))), .int (nI h), .int (nI (min 5 (((aO A t) / 20) + 1)))]) (rest := []) hX (c_X8_write b hC σ27 (drA (byC A)) hRC29.2.1 (va_setZ hvC) 1 t ((drN (aZ (drA (byC A)))) % (aN A)) h (min 5 (((aO A t) / 20) + 1))) dX3_buyerComes_181 cb_X3_175 (hC.1 4 (7, 0) rfl) rfl rfl ⟨Nat.le_of_ble_eq_true rfl, Nat.le_of_ble_eq_true rfl⟩ ⟨Nat.le_of_ble_eq_true rfl, Nat.le_of_ble_eq_true rfl⟩ (Nat.le_of_ble_eq_true rfl) (fun r31 σ32 h33 => ?_)
            obtain ⟨rfl, hw34, hf35⟩ := h33
            unfold wrA at hw34
            rw [if_pos (show aW (drA (byC A)) < 24 by rw [aW_drA]; omega)] at hw34
            have hRC36 : RC L σ32 b (addW (drA (byC A)) 1 t ((drN (aZ (drA (byC A)))) % (aN A)) h (min 5 (((aO A t) / 20) + 1))) := RC.addW ⟨hRC29.1, hRC29.2.1, hRC29.2.2⟩ (by omega) hw34 hf35
            refine r_pop hX dX3_buyerComes_184 rfl ?_
            refine r_bipush hX (nI 10) dX3_buyerComes_185 rfl ?_
            refine r_iload_n hX dX3_buyerComes_187 rfl ?_
            refine r_imulN hX dX3_buyerComes_188 ?_
            refine r_iload hX dX3_buyerComes_189 rfl ?_
            refine r_iaddN hX dX3_buyerComes_191 ?_
            exact r_ireturn hX hQ dX3_buyerComes_192 ⟨Nat.le_of_ble_eq_true rfl, Nat.le_of_ble_eq_true rfl⟩ (PI.mk (by have hw : byW A = true := (by unfold byW; rw [hF, decide_eq_true (show drN (aZ (byC A)) % 100 < _ from c21), decide_eq_true (show 0 < aN A by omega), decide_eq_true (show aW A < 24 by omega)]; rfl); have hs : byS A = min 5 (aO A t / 20 + 1) := (by unfold byS; rw [← ht0]); refine ⟨by unfold byR; rw [if_pos hw, hs, ← ht0], ?_, (Cb.tr (Cb.tr (Cb.tr (Cb.up (Cb.tr (Cb.tr (Cb.rf b σ) hS6) hS10.cb) (by omega)) hS20) hS30) hf35.cb)⟩; unfold byE; rw [if_pos hw, hs, ← ht0]; exact hRC36))
          · skip
            refine r_bipush hX (nI 10) dX3_buyerComes_141 rfl ?_
            refine r_iload_n hX dX3_buyerComes_143 rfl ?_
            refine r_imulN hX dX3_buyerComes_144 ?_
            exact r_ireturn hX hQ dX3_buyerComes_145 ⟨Nat.le_of_ble_eq_true rfl, Nat.le_of_ble_eq_true rfl⟩ (PI.mk (by have hw : byW A = false := (by unfold byW; rw [decide_eq_false (show ¬ aW A < 24 by omega), Bool.and_false]); refine ⟨by unfold byR; rw [if_neg (by rw [hw]; decide), ← ht0]; rfl, ?_, (Cb.tr (Cb.up (Cb.tr (Cb.tr (Cb.rf b σ) hS6) hS10.cb) (by omega)) hS20)⟩; unfold byE; rw [if_neg (by rw [hw]; decide)]; exact hRC19c))
    · skip
      rw [mnI_1 hcw]
      have hF : byF A = apN (aO A t) (mn (byB A) t / 5) := by unfold byF; rw [← ht0, if_neg hcw]
      refine r_istore_n hX [(0, .ref (L.1 (b + 0))), (1, .int (nI h)), (2, .int (nI t)), (3, .int (nI (mn (byB A) t)))] dX3_buyerComes_73 hN3 rfl ?_
      refine r_iload_n hX dX3_buyerComes_74 rfl ?_
      refine r_ldc hX dX3_buyerComes_75 ko_X3_124 ?_
      refine r_icmp_ne hX dX3_buyerComes_77 (fun c37 => ?_) (fun c37 => absurd c37 (nneg_ne (by omega) (by decide)))
      refine r_aload_n hX dX3_buyerComes_85 rfl ?_
      refine r_getR hX dX3_buyerComes_86 fl_X3_15 (hC.1 0 (2, 0) rfl) rfl (hC.2.1 0 1 1 rfl) ?_
      refine r_iload_n hX dX3_buyerComes_89 rfl ?_
      refine r_aldN hX dX3_buyerComes_90 (hC.1 1 (10, 6) rfl) (by decide) (by omega) (nI (aO A t)) ((m0.2.2.2.2.1 t (show t < aT (byT A).2 by rw [hbs.1]; exact htl)).trans (show nI (aO (byT A).2 t) = nI (aO A t) by rw [hbs.2.2.2.1])) ?_
      refine r_iload_n hX dX3_buyerComes_91 rfl ?_
      refine r_iconst hX (nI 5) dX3_buyerComes_92 rfl ?_
      refine r_idivN hX dX3_buyerComes_93 (by omega) (by decide) (by decide) ?_
      refine r_isub hX dX3_buyerComes_94 ?_
      refine r_abs hX dX3_buyerComes_95 cb_X3_169 ⟨Nat.le_of_ble_eq_true rfl, Nat.le_of_ble_eq_true rfl⟩ ⟨Nat.le_of_ble_eq_true rfl, Nat.le_of_ble_eq_true rfl⟩ (Nat.le_of_ble_eq_true rfl) (nI (apN (aO A t) (mn (byB A) t / 5))) (abs_sub (by omega) (by omega)) ?_
      refine r_istore hX [(0, .ref (L.1 (b + 0))), (1, .int (nI h)), (2, .int (nI t)), (3, .int (nI (mn (byB A) t))), (4, .int (nI (apN (aO A t) (mn (byB A) t / 5))))] dX3_buyerComes_98 hN4 rfl ?_
      refine r_aload_n hX dX3_buyerComes_100 rfl ?_
      refine r_callVI (As := []) (rest := []) hX (c_X3_draw b hC (up σ8 (b + 2) t (nI (min 9999 (aB A t + 1)))) (byB A) m0 mW mX hvB) dX3_buyerComes_101 cb_X3_156 (hC.1 0 (2, 0) rfl) rfl rfl ⟨Nat.le_of_ble_eq_true rfl, Nat.le_of_ble_eq_true rfl⟩ ⟨Nat.le_of_ble_eq_true rfl, Nat.le_of_ble_eq_true rfl⟩ (Nat.le_of_ble_eq_true rfl) (fun r38 σ39 h40 => ?_)
      obtain ⟨rfl, hRC41, hS42⟩ := h40
      have hRC41c : RC L σ39 b (byC A) := hRC41
      have hvC := va_byC hV
      have hcs := byC_same A
      refine r_bipush hX (nI 100) dX3_buyerComes_104 rfl ?_
      refine r_iremN hX dX3_buyerComes_106 (by have := drN_lt (aZ (drA (byB A))); omega) (by decide) (by decide) ?_
      refine r_iload hX dX3_buyerComes_107 rfl ?_
      refine r_icmpN_ge hX dX3_buyerComes_109 (by first | omega | (unfold apN; split <;> omega)) (by first | omega | (unfold apN; split <;> omega)) (fun c43 => ?_) (fun c43 => ?_)
      · skip
        refine r_iconst hX (nI 0) dX3_buyerComes_116 rfl ?_
        refine r_istore hX [(0, .ref (L.1 (b + 0))), (1, .int (nI h)), (2, .int (nI t)), (3, .int (nI (mn (byB A) t))), (4, .int (nI (apN (aO A t) (mn (byB A) t / 5)))), (5, .int (nI 0))] dX3_buyerComes_117 hN5 rfl ?_
        refine r_iload hX dX3_buyerComes_119 rfl ?_
        refine r_ifN_eq hX dX3_buyerComes_121 (by decide) (fun c44 => ?_) (fun c44 => absurd c44 (by decide))
        refine r_bipush hX (nI 10) dX3_buyerComes_141 rfl ?_
        refine r_iload_n hX dX3_buyerComes_143 rfl ?_
        refine r_imulN hX dX3_buyerComes_144 ?_
        exact r_ireturn hX hQ dX3_buyerComes_145 ⟨Nat.le_of_ble_eq_true rfl, Nat.le_of_ble_eq_true rfl⟩ (PI.mk (by have hw : byW A = false := (by unfold byW; rw [hF, decide_eq_false (show ¬ drN (aZ (byC A)) % 100 < _ from Nat.not_lt.mpr c43)]; rfl); refine ⟨by unfold byR; rw [if_neg (by rw [hw]; decide), ← ht0]; rfl, ?_, (Cb.tr (Cb.up (Cb.tr (Cb.tr (Cb.rf b σ) hS6) hS10.cb) (by omega)) hS42)⟩; unfold byE; rw [if_neg (by rw [hw]; decide)]; exact hRC41c))
      · skip
        refine r_iconst hX (nI 1) dX3_buyerComes_112 rfl ?_
        refine r_goto hX dX3_buyerComes_113 ?_
        refine r_istore hX [(0, .ref (L.1 (b + 0))), (1, .int (nI h)), (2, .int (nI t)), (3, .int (nI (mn (byB A) t))), (4, .int (nI (apN (aO A t) (mn (byB A) t / 5)))), (5, .int (nI 1))] dX3_buyerComes_117 hN5 rfl ?_
        refine r_iload hX dX3_buyerComes_119 rfl ?_
        refine r_ifN_eq hX dX3_buyerComes_121 (by decide) (fun c45 => absurd c45 (by decide)) (fun c45 => ?_)
        refine r_aload_n hX dX3_buyerComes_124 rfl ?_
        refine r_getIV hX dX3_buyerComes_125 fl_X3_22 (hC.1 0 (2, 0) rfl) rfl (nI (aN A)) (hRC41c.1.2.1.trans (by rw [(byC_same A).2.1])) ?_
        refine r_ifN_eq hX dX3_buyerComes_128 (by omega) (fun c46 => ?_) (fun c46 => ?_)
        · skip
          refine r_bipush hX (nI 10) dX3_buyerComes_141 rfl ?_
          refine r_iload_n hX dX3_buyerComes_143 rfl ?_
          refine r_imulN hX dX3_buyerComes_144 ?_
          exact r_ireturn hX hQ dX3_buyerComes_145 ⟨Nat.le_of_ble_eq_true rfl, Nat.le_of_ble_eq_true rfl⟩ (PI.mk (by have hw : byW A = false := (by unfold byW; rw [decide_eq_false (show ¬ 0 < aN A by omega), Bool.and_false]; rfl); refine ⟨by unfold byR; rw [if_neg (by rw [hw]; decide), ← ht0]; rfl, ?_, (Cb.tr (Cb.up (Cb.tr (Cb.tr (Cb.rf b σ) hS6) hS10.cb) (by omega)) hS42)⟩; unfold byE; rw [if_neg (by rw [hw]; decide)]; exact hRC41c))
        · skip
          refine r_aload_n hX dX3_buyerComes_131 rfl ?_
          refine r_getR hX dX3_buyerComes_132 fl_X3_31 (hC.1 0 (2, 0) rfl) rfl (hC.2.1 0 5 4 rfl) ?_
          refine r_callVF (As := []) (rest := []) hX (c_X8_room b hC σ39 (byC A) hRC41c.2.1 hvC) dX3_buyerComes_135 cb_X3_172 (hC.1 4 (7, 0) rfl) rfl rfl ⟨Nat.le_of_ble_eq_true rfl, Nat.le_of_ble_eq_true rfl⟩ ⟨Nat.le_of_ble_eq_true rfl, Nat.le_of_ble_eq_true rfl⟩ (Nat.le_of_ble_eq_true rfl) ?_
          refine r_ifN_ne hX dX3_buyerComes_138 (by omega) (fun c47 => ?_) (fun c47 => ?_)
          · skip
            refine r_iconst hX (nI 5) dX3_buyerComes_146 rfl ?_
            refine r_aload_n hX dX3_buyerComes_147 rfl ?_
            refine r_getR hX dX3_buyerComes_148 fl_X3_15 (hC.1 0 (2, 0) rfl) rfl (hC.2.1 0 1 1 rfl) ?_
            refine r_iload_n hX dX3_buyerComes_151 rfl ?_
            refine r_aldN hX dX3_buyerComes_152 (hC.1 1 (10, 6) rfl) (by decide) (by omega) (nI (aO A t)) ((hRC41c.1.2.2.2.2.1 t (show t < aT (byT A).2 by rw [hbs.1]; exact htl)).trans (show nI (aO (byT A).2 t) = nI (aO A t) by rw [hbs.2.2.2.1])) ?_
            refine r_bipush hX (nI 20) dX3_buyerComes_153 rfl ?_
            refine r_idivN hX dX3_buyerComes_155 (by omega) (by decide) (by decide) ?_
            refine r_iconst hX (nI 1) dX3_buyerComes_156 rfl ?_
            refine r_iaddN hX dX3_buyerComes_157 ?_
            refine r_min hX dX3_buyerComes_158 cb_X3_70 ⟨Nat.le_of_ble_eq_true rfl, Nat.le_of_ble_eq_true rfl⟩ ⟨Nat.le_of_ble_eq_true rfl, Nat.le_of_ble_eq_true rfl⟩ (Nat.le_of_ble_eq_true rfl) (nI (min 5 (((aO A t) / 20) + 1))) (miI_n (by decide) (by omega)) ?_
            refine r_istore hX [(0, .ref (L.1 (b + 0))), (1, .int (nI h)), (2, .int (nI t)), (3, .int (nI (mn (byB A) t))), (4, .int (nI (apN (aO A t) (mn (byB A) t / 5)))), (5, .int (nI 1)), (6, .int (nI (min 5 (((aO A t) / 20) + 1))))] dX3_buyerComes_161 hN6 rfl ?_
            refine r_aload_n hX dX3_buyerComes_163 rfl ?_
            refine r_getR hX dX3_buyerComes_164 fl_X3_31 (hC.1 0 (2, 0) rfl) rfl (hC.2.1 0 5 4 rfl) ?_
            refine r_iconst hX (nI 1) dX3_buyerComes_167 rfl ?_
            refine r_iload_n hX dX3_buyerComes_168 rfl ?_
            refine r_aload_n hX dX3_buyerComes_169 rfl ?_
            refine r_callVI (As := []) (rest := [.int (nI t), .int (nI 1), .ref (L.1 (b + 4))]) hX (c_X3_draw b hC σ39 (byC A) hRC41c.1 hRC41c.2.1 hRC41c.2.2 hvC) dX3_buyerComes_170 cb_X3_156 (hC.1 0 (2, 0) rfl) rfl rfl ⟨Nat.le_of_ble_eq_true rfl, Nat.le_of_ble_eq_true rfl⟩ ⟨Nat.le_of_ble_eq_true rfl, Nat.le_of_ble_eq_true rfl⟩ (Nat.le_of_ble_eq_true rfl) (fun r48 σ49 h50 => ?_)
            obtain ⟨rfl, hRC51, hS52⟩ := h50
            refine r_aload_n hX dX3_buyerComes_173 rfl ?_
            refine r_getIV hX dX3_buyerComes_174 fl_X3_22 (hC.1 0 (2, 0) rfl) rfl (nI (aN A)) (hRC51.1.2.1.trans (by rw [aN_drA, (byC_same A).2.1])) ?_
            refine r_iremN hX dX3_buyerComes_177 (by have := drN_lt (aZ (drA (byC A))); omega) (by omega) (by omega) ?_
            refine r_iload_n hX dX3_buyerComes_178 rfl ?_
            refine r_iload hX dX3_buyerComes_179 rfl ?_
            refine r_callVI (As := [.int (nI 1), .int (nI t), .int (nI ((drN (aZ (drA (byC A)))) % (aN A))), .int (nI h), .int (nI (min 5 (((aO A t) / 20) + 1)))]) (rest := []) hX (c_X8_write b hC σ49 (drA (byC A)) hRC51.2.1 (va_setZ hvC) 1 t ((drN (aZ (drA (byC A)))) % (aN A)) h (min 5 (((aO A t) / 20) + 1))) dX3_buyerComes_181 cb_X3_175 (hC.1 4 (7, 0) rfl) rfl rfl ⟨Nat.le_of_ble_eq_true rfl, Nat.le_of_ble_eq_true rfl⟩ ⟨Nat.le_of_ble_eq_true rfl, Nat.le_of_ble_eq_true rfl⟩ (Nat.le_of_ble_eq_true rfl) (fun r53 σ54 h55 => ?_)
            obtain ⟨rfl, hw56, hf57⟩ := h55
            unfold wrA at hw56
            rw [if_pos (show aW (drA (byC A)) < 24 by rw [aW_drA]; omega)] at hw56
            have hRC58 : RC L σ54 b (addW (drA (byC A)) 1 t ((drN (aZ (drA (byC A)))) % (aN A)) h (min 5 (((aO A t) / 20) + 1))) := RC.addW ⟨hRC51.1, hRC51.2.1, hRC51.2.2⟩ (by omega) hw56 hf57
            refine r_pop hX dX3_buyerComes_184 rfl ?_
            refine r_bipush hX (nI 10) dX3_buyerComes_185 rfl ?_
            refine r_iload_n hX dX3_buyerComes_187 rfl ?_
            refine r_imulN hX dX3_buyerComes_188 ?_
            refine r_iload hX dX3_buyerComes_189 rfl ?_
            refine r_iaddN hX dX3_buyerComes_191 ?_
            exact r_ireturn hX hQ dX3_buyerComes_192 ⟨Nat.le_of_ble_eq_true rfl, Nat.le_of_ble_eq_true rfl⟩ (PI.mk (by have hw : byW A = true := (by unfold byW; rw [hF, decide_eq_true (show drN (aZ (byC A)) % 100 < _ from c43), decide_eq_true (show 0 < aN A by omega), decide_eq_true (show aW A < 24 by omega)]; rfl); have hs : byS A = min 5 (aO A t / 20 + 1) := (by unfold byS; rw [← ht0]); refine ⟨by unfold byR; rw [if_pos hw, hs, ← ht0], ?_, (Cb.tr (Cb.tr (Cb.tr (Cb.up (Cb.tr (Cb.tr (Cb.rf b σ) hS6) hS10.cb) (by omega)) hS42) hS52) hf57.cb)⟩; unfold byE; rw [if_pos hw, hs, ← ht0]; exact hRC58))
          · skip
            refine r_bipush hX (nI 10) dX3_buyerComes_141 rfl ?_
            refine r_iload_n hX dX3_buyerComes_143 rfl ?_
            refine r_imulN hX dX3_buyerComes_144 ?_
            exact r_ireturn hX hQ dX3_buyerComes_145 ⟨Nat.le_of_ble_eq_true rfl, Nat.le_of_ble_eq_true rfl⟩ (PI.mk (by have hw : byW A = false := (by unfold byW; rw [decide_eq_false (show ¬ aW A < 24 by omega), Bool.and_false]); refine ⟨by unfold byR; rw [if_neg (by rw [hw]; decide), ← ht0]; rfl, ?_, (Cb.tr (Cb.up (Cb.tr (Cb.tr (Cb.rf b σ) hS6) hS10.cb) (by omega)) hS42)⟩; unfold byE; rw [if_neg (by rw [hw]; decide)]; exact hRC41c))
  · skip
    refine r_aload_n hX dX3_buyerComes_18 rfl ?_
    refine r_callVI (As := []) (rest := []) hX (c_X3_draw b hC σ3 (drA A) hRC5.1 hRC5.2.1 hRC5.2.2 (va_setZ hV)) dX3_buyerComes_19 cb_X3_156 (hC.1 0 (2, 0) rfl) rfl rfl ⟨Nat.le_of_ble_eq_true rfl, Nat.le_of_ble_eq_true rfl⟩ ⟨Nat.le_of_ble_eq_true rfl, Nat.le_of_ble_eq_true rfl⟩ (Nat.le_of_ble_eq_true rfl) (fun r59 σ60 h61 => ?_)
    obtain ⟨rfl, hRC62, hS63⟩ := h61
    refine r_aload_n hX dX3_buyerComes_22 rfl ?_
    refine r_getIV hX dX3_buyerComes_23 fl_X3_9 (hC.1 0 (2, 0) rfl) rfl (nI (aT A)) hRC62.1.1 ?_
    refine r_iremN hX dX3_buyerComes_26 (by have := drN_lt (aZ (drA (drA A))); omega) (by omega) (by omega) ?_
    refine r_istore_n hX [(0, .ref (L.1 (b + 0))), (1, .int (nI h)), (2, .int (nI ((drN (aZ (drA (drA A)))) % (aT A))))] dX3_buyerComes_27 hN2 rfl ?_
    refine r_goto hX dX3_buyerComes_28 ?_
    have hby : byT A = ((drN (aZ (drA (drA A)))) % (aT A), (drA (drA A))) := by unfold byT; rw [if_pos c7]
    have k0 : R0 σ60 b (byT A).2 := by rw [hby]; exact hRC62.1
    have kW : RW σ60 b (byT A).2 := by rw [hby]; exact hRC62.2.1
    have kX : RX' L σ60 b (byT A).2 := by rw [hby]; exact hRC62.2.2
    obtain ⟨t, ht0⟩ : ∃ t, t = (byT A).1 := ⟨_, rfl⟩
    rw [show (drN (aZ (drA (drA A)))) % (aT A) = t by rw [ht0, hby]]
    have htl : t < aT A := by rw [ht0]; exact byT_lt hV hT0
    have hbu := (hV.2.2.2.2.1 t htl).2
    have hwo := (hV.2.2.2.2.1 t htl).1
    have hbs := byT_same A
    refine r_aload_n hX dX3_buyerComes_45 rfl ?_
    refine r_getR hX dX3_buyerComes_46 fl_X3_19 (hC.1 0 (2, 0) rfl) rfl (hC.2.1 0 2 2 rfl) ?_
    refine r_iload_n hX dX3_buyerComes_49 rfl ?_
    refine r_sipush hX (nI 9999) dX3_buyerComes_50 rfl ?_
    refine r_aload_n hX dX3_buyerComes_53 rfl ?_
    refine r_getR hX dX3_buyerComes_54 fl_X3_19 (hC.1 0 (2, 0) rfl) rfl (hC.2.1 0 2 2 rfl) ?_
    refine r_iload_n hX dX3_buyerComes_57 rfl ?_
    refine r_aldN hX dX3_buyerComes_58 (hC.1 2 (10, 6) rfl) (by decide) (by omega) (nI (aB A t)) ((k0.2.2.2.2.2.1 t (by rw [hbs.1]; exact htl)).trans (by rw [hbs.2.2.2.2])) ?_
    refine r_iconst hX (nI 1) dX3_buyerComes_59 rfl ?_
    refine r_iaddN hX dX3_buyerComes_60 ?_
    refine r_min hX dX3_buyerComes_61 cb_X3_70 ⟨Nat.le_of_ble_eq_true rfl, Nat.le_of_ble_eq_true rfl⟩ ⟨Nat.le_of_ble_eq_true rfl, Nat.le_of_ble_eq_true rfl⟩ (Nat.le_of_ble_eq_true rfl) (nI (min 9999 (aB A t + 1))) (miI_n (by decide) (by omega)) ?_
    refine r_astN hX dX3_buyerComes_64 (hC.1 2 (10, 6) rfl) (by decide) (by omega) ?_
    have m0 : R0 (up σ60 (b + 2) t (nI (min 9999 (aB A t + 1)))) b (byB A) := by unfold byB; rw [← ht0]; exact r0_setB k0
    have mW : RW (up σ60 (b + 2) t (nI (min 9999 (aB A t + 1)))) b (byB A) := RW.al (RW.kept kW (fun c i hc => up_n (by omega))) rfl rfl
    have mX : RX' L (up σ60 (b + 2) t (nI (min 9999 (aB A t + 1)))) b (byB A) := RX'.al (RX'.kept kX (fun c i h1 h2 => up_n (by omega))) rfl
    have hvB : Va (byB A) := va_setB (va_byT hV) (Nat.min_le_left _ _)
    have hmB := mn_le hvB t
    refine r_aload_n hX dX3_buyerComes_65 rfl ?_
    refine r_getR hX dX3_buyerComes_66 fl_X3_31 (hC.1 0 (2, 0) rfl) rfl (hC.2.1 0 5 4 rfl) ?_
    refine r_iload_n hX dX3_buyerComes_69 rfl ?_
    refine r_callVF (As := [.int (nI t)]) (rest := []) hX (c_X8_meanOf b hC (up σ60 (b + 2) t (nI (min 9999 (aB A t + 1)))) (byB A) mW hvB t (by omega)) dX3_buyerComes_70 cb_X3_166 (hC.1 4 (7, 0) rfl) rfl rfl ⟨Nat.le_of_ble_eq_true rfl, Nat.le_of_ble_eq_true rfl⟩ ⟨Nat.le_of_ble_eq_true rfl, Nat.le_of_ble_eq_true rfl⟩ (Nat.le_of_ble_eq_true rfl) ?_
    by_cases hcw : cw (byB A) 1 t (aW (byB A)) = 0
    · skip
      rw [mnI_0 hcw]
      have hF : byF A = 50 := by unfold byF; rw [← ht0, if_pos hcw]
      refine r_istore_n hX [(0, .ref (L.1 (b + 0))), (1, .int (nI h)), (2, .int (nI t)), (3, .int (-1000000005))] dX3_buyerComes_73 hN3 rfl ?_
      refine r_iload_n hX dX3_buyerComes_74 rfl ?_
      refine r_ldc hX dX3_buyerComes_75 ko_X3_124 ?_
      refine r_icmp_ne hX dX3_buyerComes_77 (fun c64 => absurd rfl c64) (fun c64 => ?_)
      refine r_bipush hX (nI 50) dX3_buyerComes_80 rfl ?_
      refine r_goto hX dX3_buyerComes_82 ?_
      refine r_istore hX [(0, .ref (L.1 (b + 0))), (1, .int (nI h)), (2, .int (nI t)), (3, .int (-1000000005)), (4, .int (nI 50))] dX3_buyerComes_98 hN4 rfl ?_
      refine r_aload_n hX dX3_buyerComes_100 rfl ?_
      refine r_callVI (As := []) (rest := []) hX (c_X3_draw b hC (up σ60 (b + 2) t (nI (min 9999 (aB A t + 1)))) (byB A) m0 mW mX hvB) dX3_buyerComes_101 cb_X3_156 (hC.1 0 (2, 0) rfl) rfl rfl ⟨Nat.le_of_ble_eq_true rfl, Nat.le_of_ble_eq_true rfl⟩ ⟨Nat.le_of_ble_eq_true rfl, Nat.le_of_ble_eq_true rfl⟩ (Nat.le_of_ble_eq_true rfl) (fun r65 σ66 h67 => ?_)
      obtain ⟨rfl, hRC68, hS69⟩ := h67
      have hRC68c : RC L σ66 b (byC A) := hRC68
      have hvC := va_byC hV
      have hcs := byC_same A
      refine r_bipush hX (nI 100) dX3_buyerComes_104 rfl ?_
      refine r_iremN hX dX3_buyerComes_106 (by have := drN_lt (aZ (drA (byB A))); omega) (by decide) (by decide) ?_
      refine r_iload hX dX3_buyerComes_107 rfl ?_
      refine r_icmpN_ge hX dX3_buyerComes_109 (by first | omega | (unfold apN; split <;> omega)) (by decide) (fun c70 => ?_) (fun c70 => ?_)
      · skip
        refine r_iconst hX (nI 0) dX3_buyerComes_116 rfl ?_
        refine r_istore hX [(0, .ref (L.1 (b + 0))), (1, .int (nI h)), (2, .int (nI t)), (3, .int (-1000000005)), (4, .int (nI 50)), (5, .int (nI 0))] dX3_buyerComes_117 hN5 rfl ?_
        refine r_iload hX dX3_buyerComes_119 rfl ?_
        refine r_ifN_eq hX dX3_buyerComes_121 (by decide) (fun c71 => ?_) (fun c71 => absurd c71 (by decide))
        refine r_bipush hX (nI 10) dX3_buyerComes_141 rfl ?_
        refine r_iload_n hX dX3_buyerComes_143 rfl ?_
        refine r_imulN hX dX3_buyerComes_144 ?_
        exact r_ireturn hX hQ dX3_buyerComes_145 ⟨Nat.le_of_ble_eq_true rfl, Nat.le_of_ble_eq_true rfl⟩ (PI.mk (by have hw : byW A = false := (by unfold byW; rw [hF, decide_eq_false (show ¬ drN (aZ (byC A)) % 100 < _ from Nat.not_lt.mpr c70)]; rfl); refine ⟨by unfold byR; rw [if_neg (by rw [hw]; decide), ← ht0]; rfl, ?_, (Cb.tr (Cb.up (Cb.tr (Cb.tr (Cb.rf b σ) hS6) hS63) (by omega)) hS69)⟩; unfold byE; rw [if_neg (by rw [hw]; decide)]; exact hRC68c))
      · skip
        refine r_iconst hX (nI 1) dX3_buyerComes_112 rfl ?_
        refine r_goto hX dX3_buyerComes_113 ?_
        refine r_istore hX [(0, .ref (L.1 (b + 0))), (1, .int (nI h)), (2, .int (nI t)), (3, .int (-1000000005)), (4, .int (nI 50)), (5, .int (nI 1))] dX3_buyerComes_117 hN5 rfl ?_
        refine r_iload hX dX3_buyerComes_119 rfl ?_
        refine r_ifN_eq hX dX3_buyerComes_121 (by decide) (fun c72 => absurd c72 (by decide)) (fun c72 => ?_)
        refine r_aload_n hX dX3_buyerComes_124 rfl ?_
        refine r_getIV hX dX3_buyerComes_125 fl_X3_22 (hC.1 0 (2, 0) rfl) rfl (nI (aN A)) (hRC68c.1.2.1.trans (by rw [(byC_same A).2.1])) ?_
        refine r_ifN_eq hX dX3_buyerComes_128 (by omega) (fun c73 => ?_) (fun c73 => ?_)
        · skip
          refine r_bipush hX (nI 10) dX3_buyerComes_141 rfl ?_
          refine r_iload_n hX dX3_buyerComes_143 rfl ?_
          refine r_imulN hX dX3_buyerComes_144 ?_
          exact r_ireturn hX hQ dX3_buyerComes_145 ⟨Nat.le_of_ble_eq_true rfl, Nat.le_of_ble_eq_true rfl⟩ (PI.mk (by have hw : byW A = false := (by unfold byW; rw [decide_eq_false (show ¬ 0 < aN A by omega), Bool.and_false]; rfl); refine ⟨by unfold byR; rw [if_neg (by rw [hw]; decide), ← ht0]; rfl, ?_, (Cb.tr (Cb.up (Cb.tr (Cb.tr (Cb.rf b σ) hS6) hS63) (by omega)) hS69)⟩; unfold byE; rw [if_neg (by rw [hw]; decide)]; exact hRC68c))
        · skip
          refine r_aload_n hX dX3_buyerComes_131 rfl ?_
          refine r_getR hX dX3_buyerComes_132 fl_X3_31 (hC.1 0 (2, 0) rfl) rfl (hC.2.1 0 5 4 rfl) ?_
          refine r_callVF (As := []) (rest := []) hX (c_X8_room b hC σ66 (byC A) hRC68c.2.1 hvC) dX3_buyerComes_135 cb_X3_172 (hC.1 4 (7, 0) rfl) rfl rfl ⟨Nat.le_of_ble_eq_true rfl, Nat.le_of_ble_eq_true rfl⟩ ⟨Nat.le_of_ble_eq_true rfl, Nat.le_of_ble_eq_true rfl⟩ (Nat.le_of_ble_eq_true rfl) ?_
          refine r_ifN_ne hX dX3_buyerComes_138 (by omega) (fun c74 => ?_) (fun c74 => ?_)
          · skip
            refine r_iconst hX (nI 5) dX3_buyerComes_146 rfl ?_
            refine r_aload_n hX dX3_buyerComes_147 rfl ?_
            refine r_getR hX dX3_buyerComes_148 fl_X3_15 (hC.1 0 (2, 0) rfl) rfl (hC.2.1 0 1 1 rfl) ?_
            refine r_iload_n hX dX3_buyerComes_151 rfl ?_
            refine r_aldN hX dX3_buyerComes_152 (hC.1 1 (10, 6) rfl) (by decide) (by omega) (nI (aO A t)) ((hRC68c.1.2.2.2.2.1 t (show t < aT (byT A).2 by rw [hbs.1]; exact htl)).trans (show nI (aO (byT A).2 t) = nI (aO A t) by rw [hbs.2.2.2.1])) ?_
            refine r_bipush hX (nI 20) dX3_buyerComes_153 rfl ?_
            refine r_idivN hX dX3_buyerComes_155 (by omega) (by decide) (by decide) ?_
            refine r_iconst hX (nI 1) dX3_buyerComes_156 rfl ?_
            refine r_iaddN hX dX3_buyerComes_157 ?_
            refine r_min hX dX3_buyerComes_158 cb_X3_70 ⟨Nat.le_of_ble_eq_true rfl, Nat.le_of_ble_eq_true rfl⟩ ⟨Nat.le_of_ble_eq_true rfl, Nat.le_of_ble_eq_true rfl⟩ (Nat.le_of_ble_eq_true rfl) (nI (min 5 (((aO A t) / 20) + 1))) (miI_n (by decide) (by omega)) ?_
            refine r_istore hX [(0, .ref (L.1 (b + 0))), (1, .int (nI h)), (2, .int (nI t)), (3, .int (-1000000005)), (4, .int (nI 50)), (5, .int (nI 1)), (6, .int (nI (min 5 (((aO A t) / 20) + 1))))] dX3_buyerComes_161 hN6 rfl ?_
            refine r_aload_n hX dX3_buyerComes_163 rfl ?_
            refine r_getR hX dX3_buyerComes_164 fl_X3_31 (hC.1 0 (2, 0) rfl) rfl (hC.2.1 0 5 4 rfl) ?_
            refine r_iconst hX (nI 1) dX3_buyerComes_167 rfl ?_
            refine r_iload_n hX dX3_buyerComes_168 rfl ?_
            refine r_aload_n hX dX3_buyerComes_169 rfl ?_
            refine r_callVI (As := []) (rest := [.int (nI t), .int (nI 1), .ref (L.1 (b + 4))]) hX (c_X3_draw b hC σ66 (byC A) hRC68c.1 hRC68c.2.1 hRC68c.2.2 hvC) dX3_buyerComes_170 cb_X3_156 (hC.1 0 (2, 0) rfl) rfl rfl ⟨Nat.le_of_ble_eq_true rfl, Nat.le_of_ble_eq_true rfl⟩ ⟨Nat.le_of_ble_eq_true rfl, Nat.le_of_ble_eq_true rfl⟩ (Nat.le_of_ble_eq_true rfl) (fun r75 σ76 h77 => ?_)
            obtain ⟨rfl, hRC78, hS79⟩ := h77
            refine r_aload_n hX dX3_buyerComes_173 rfl ?_
            refine r_getIV hX dX3_buyerComes_174 fl_X3_22 (hC.1 0 (2, 0) rfl) rfl (nI (aN A)) (hRC78.1.2.1.trans (by rw [aN_drA, (byC_same A).2.1])) ?_
            refine r_iremN hX dX3_buyerComes_177 (by have := drN_lt (aZ (drA (byC A))); omega) (by omega) (by omega) ?_
            refine r_iload_n hX dX3_buyerComes_178 rfl ?_
            refine r_iload hX dX3_buyerComes_179 rfl ?_
            refine r_callVI (As := [.int (nI 1), .int (nI t), .int (nI ((drN (aZ (drA (byC A)))) % (aN A))), .int (nI h), .int (nI (min 5 (((aO A t) / 20) + 1)))]) (rest := []) hX (c_X8_write b hC σ76 (drA (byC A)) hRC78.2.1 (va_setZ hvC) 1 t ((drN (aZ (drA (byC A)))) % (aN A)) h (min 5 (((aO A t) / 20) + 1))) dX3_buyerComes_181 cb_X3_175 (hC.1 4 (7, 0) rfl) rfl rfl ⟨Nat.le_of_ble_eq_true rfl, Nat.le_of_ble_eq_true rfl⟩ ⟨Nat.le_of_ble_eq_true rfl, Nat.le_of_ble_eq_true rfl⟩ (Nat.le_of_ble_eq_true rfl) (fun r80 σ81 h82 => ?_)
            obtain ⟨rfl, hw83, hf84⟩ := h82
            unfold wrA at hw83
            rw [if_pos (show aW (drA (byC A)) < 24 by rw [aW_drA]; omega)] at hw83
            have hRC85 : RC L σ81 b (addW (drA (byC A)) 1 t ((drN (aZ (drA (byC A)))) % (aN A)) h (min 5 (((aO A t) / 20) + 1))) := RC.addW ⟨hRC78.1, hRC78.2.1, hRC78.2.2⟩ (by omega) hw83 hf84
            refine r_pop hX dX3_buyerComes_184 rfl ?_
            refine r_bipush hX (nI 10) dX3_buyerComes_185 rfl ?_
            refine r_iload_n hX dX3_buyerComes_187 rfl ?_
            refine r_imulN hX dX3_buyerComes_188 ?_
            refine r_iload hX dX3_buyerComes_189 rfl ?_
            refine r_iaddN hX dX3_buyerComes_191 ?_
            exact r_ireturn hX hQ dX3_buyerComes_192 ⟨Nat.le_of_ble_eq_true rfl, Nat.le_of_ble_eq_true rfl⟩ (PI.mk (by have hw : byW A = true := (by unfold byW; rw [hF, decide_eq_true (show drN (aZ (byC A)) % 100 < _ from c70), decide_eq_true (show 0 < aN A by omega), decide_eq_true (show aW A < 24 by omega)]; rfl); have hs : byS A = min 5 (aO A t / 20 + 1) := (by unfold byS; rw [← ht0]); refine ⟨by unfold byR; rw [if_pos hw, hs, ← ht0], ?_, (Cb.tr (Cb.tr (Cb.tr (Cb.up (Cb.tr (Cb.tr (Cb.rf b σ) hS6) hS63) (by omega)) hS69) hS79) hf84.cb)⟩; unfold byE; rw [if_pos hw, hs, ← ht0]; exact hRC85))
          · skip
            refine r_bipush hX (nI 10) dX3_buyerComes_141 rfl ?_
            refine r_iload_n hX dX3_buyerComes_143 rfl ?_
            refine r_imulN hX dX3_buyerComes_144 ?_
            exact r_ireturn hX hQ dX3_buyerComes_145 ⟨Nat.le_of_ble_eq_true rfl, Nat.le_of_ble_eq_true rfl⟩ (PI.mk (by have hw : byW A = false := (by unfold byW; rw [decide_eq_false (show ¬ aW A < 24 by omega), Bool.and_false]); refine ⟨by unfold byR; rw [if_neg (by rw [hw]; decide), ← ht0]; rfl, ?_, (Cb.tr (Cb.up (Cb.tr (Cb.tr (Cb.rf b σ) hS6) hS63) (by omega)) hS69)⟩; unfold byE; rw [if_neg (by rw [hw]; decide)]; exact hRC68c))
    · skip
      rw [mnI_1 hcw]
      have hF : byF A = apN (aO A t) (mn (byB A) t / 5) := by unfold byF; rw [← ht0, if_neg hcw]
      refine r_istore_n hX [(0, .ref (L.1 (b + 0))), (1, .int (nI h)), (2, .int (nI t)), (3, .int (nI (mn (byB A) t)))] dX3_buyerComes_73 hN3 rfl ?_
      refine r_iload_n hX dX3_buyerComes_74 rfl ?_
      refine r_ldc hX dX3_buyerComes_75 ko_X3_124 ?_
      refine r_icmp_ne hX dX3_buyerComes_77 (fun c86 => ?_) (fun c86 => absurd c86 (nneg_ne (by omega) (by decide)))
      refine r_aload_n hX dX3_buyerComes_85 rfl ?_
      refine r_getR hX dX3_buyerComes_86 fl_X3_15 (hC.1 0 (2, 0) rfl) rfl (hC.2.1 0 1 1 rfl) ?_
      refine r_iload_n hX dX3_buyerComes_89 rfl ?_
      refine r_aldN hX dX3_buyerComes_90 (hC.1 1 (10, 6) rfl) (by decide) (by omega) (nI (aO A t)) ((m0.2.2.2.2.1 t (show t < aT (byT A).2 by rw [hbs.1]; exact htl)).trans (show nI (aO (byT A).2 t) = nI (aO A t) by rw [hbs.2.2.2.1])) ?_
      refine r_iload_n hX dX3_buyerComes_91 rfl ?_
      refine r_iconst hX (nI 5) dX3_buyerComes_92 rfl ?_
      refine r_idivN hX dX3_buyerComes_93 (by omega) (by decide) (by decide) ?_
      refine r_isub hX dX3_buyerComes_94 ?_
      refine r_abs hX dX3_buyerComes_95 cb_X3_169 ⟨Nat.le_of_ble_eq_true rfl, Nat.le_of_ble_eq_true rfl⟩ ⟨Nat.le_of_ble_eq_true rfl, Nat.le_of_ble_eq_true rfl⟩ (Nat.le_of_ble_eq_true rfl) (nI (apN (aO A t) (mn (byB A) t / 5))) (abs_sub (by omega) (by omega)) ?_
      refine r_istore hX [(0, .ref (L.1 (b + 0))), (1, .int (nI h)), (2, .int (nI t)), (3, .int (nI (mn (byB A) t))), (4, .int (nI (apN (aO A t) (mn (byB A) t / 5))))] dX3_buyerComes_98 hN4 rfl ?_
      refine r_aload_n hX dX3_buyerComes_100 rfl ?_
      refine r_callVI (As := []) (rest := []) hX (c_X3_draw b hC (up σ60 (b + 2) t (nI (min 9999 (aB A t + 1)))) (byB A) m0 mW mX hvB) dX3_buyerComes_101 cb_X3_156 (hC.1 0 (2, 0) rfl) rfl rfl ⟨Nat.le_of_ble_eq_true rfl, Nat.le_of_ble_eq_true rfl⟩ ⟨Nat.le_of_ble_eq_true rfl, Nat.le_of_ble_eq_true rfl⟩ (Nat.le_of_ble_eq_true rfl) (fun r87 σ88 h89 => ?_)
      obtain ⟨rfl, hRC90, hS91⟩ := h89
      have hRC90c : RC L σ88 b (byC A) := hRC90
      have hvC := va_byC hV
      have hcs := byC_same A
      refine r_bipush hX (nI 100) dX3_buyerComes_104 rfl ?_
      refine r_iremN hX dX3_buyerComes_106 (by have := drN_lt (aZ (drA (byB A))); omega) (by decide) (by decide) ?_
      refine r_iload hX dX3_buyerComes_107 rfl ?_
      refine r_icmpN_ge hX dX3_buyerComes_109 (by first | omega | (unfold apN; split <;> omega)) (by first | omega | (unfold apN; split <;> omega)) (fun c92 => ?_) (fun c92 => ?_)
      · skip
        refine r_iconst hX (nI 0) dX3_buyerComes_116 rfl ?_
        refine r_istore hX [(0, .ref (L.1 (b + 0))), (1, .int (nI h)), (2, .int (nI t)), (3, .int (nI (mn (byB A) t))), (4, .int (nI (apN (aO A t) (mn (byB A) t / 5)))), (5, .int (nI 0))] dX3_buyerComes_117 hN5 rfl ?_
        refine r_iload hX dX3_buyerComes_119 rfl ?_
        refine r_ifN_eq hX dX3_buyerComes_121 (by decide) (fun c93 => ?_) (fun c93 => absurd c93 (by decide))
        refine r_bipush hX (nI 10) dX3_buyerComes_141 rfl ?_
        refine r_iload_n hX dX3_buyerComes_143 rfl ?_
        refine r_imulN hX dX3_buyerComes_144 ?_
        exact r_ireturn hX hQ dX3_buyerComes_145 ⟨Nat.le_of_ble_eq_true rfl, Nat.le_of_ble_eq_true rfl⟩ (PI.mk (by have hw : byW A = false := (by unfold byW; rw [hF, decide_eq_false (show ¬ drN (aZ (byC A)) % 100 < _ from Nat.not_lt.mpr c92)]; rfl); refine ⟨by unfold byR; rw [if_neg (by rw [hw]; decide), ← ht0]; rfl, ?_, (Cb.tr (Cb.up (Cb.tr (Cb.tr (Cb.rf b σ) hS6) hS63) (by omega)) hS91)⟩; unfold byE; rw [if_neg (by rw [hw]; decide)]; exact hRC90c))
      · skip
        refine r_iconst hX (nI 1) dX3_buyerComes_112 rfl ?_
        refine r_goto hX dX3_buyerComes_113 ?_
        refine r_istore hX [(0, .ref (L.1 (b + 0))), (1, .int (nI h)), (2, .int (nI t)), (3, .int (nI (mn (byB A) t))), (4, .int (nI (apN (aO A t) (mn (byB A) t / 5)))), (5, .int (nI 1))] dX3_buyerComes_117 hN5 rfl ?_
        refine r_iload hX dX3_buyerComes_119 rfl ?_
        refine r_ifN_eq hX dX3_buyerComes_121 (by decide) (fun c94 => absurd c94 (by decide)) (fun c94 => ?_)
        refine r_aload_n hX dX3_buyerComes_124 rfl ?_
        refine r_getIV hX dX3_buyerComes_125 fl_X3_22 (hC.1 0 (2, 0) rfl) rfl (nI (aN A)) (hRC90c.1.2.1.trans (by rw [(byC_same A).2.1])) ?_
        refine r_ifN_eq hX dX3_buyerComes_128 (by omega) (fun c95 => ?_) (fun c95 => ?_)
        · skip
          refine r_bipush hX (nI 10) dX3_buyerComes_141 rfl ?_
          refine r_iload_n hX dX3_buyerComes_143 rfl ?_
          refine r_imulN hX dX3_buyerComes_144 ?_
          exact r_ireturn hX hQ dX3_buyerComes_145 ⟨Nat.le_of_ble_eq_true rfl, Nat.le_of_ble_eq_true rfl⟩ (PI.mk (by have hw : byW A = false := (by unfold byW; rw [decide_eq_false (show ¬ 0 < aN A by omega), Bool.and_false]; rfl); refine ⟨by unfold byR; rw [if_neg (by rw [hw]; decide), ← ht0]; rfl, ?_, (Cb.tr (Cb.up (Cb.tr (Cb.tr (Cb.rf b σ) hS6) hS63) (by omega)) hS91)⟩; unfold byE; rw [if_neg (by rw [hw]; decide)]; exact hRC90c))
        · skip
          refine r_aload_n hX dX3_buyerComes_131 rfl ?_
          refine r_getR hX dX3_buyerComes_132 fl_X3_31 (hC.1 0 (2, 0) rfl) rfl (hC.2.1 0 5 4 rfl) ?_
          refine r_callVF (As := []) (rest := []) hX (c_X8_room b hC σ88 (byC A) hRC90c.2.1 hvC) dX3_buyerComes_135 cb_X3_172 (hC.1 4 (7, 0) rfl) rfl rfl ⟨Nat.le_of_ble_eq_true rfl, Nat.le_of_ble_eq_true rfl⟩ ⟨Nat.le_of_ble_eq_true rfl, Nat.le_of_ble_eq_true rfl⟩ (Nat.le_of_ble_eq_true rfl) ?_
          refine r_ifN_ne hX dX3_buyerComes_138 (by omega) (fun c96 => ?_) (fun c96 => ?_)
          · skip
            refine r_iconst hX (nI 5) dX3_buyerComes_146 rfl ?_
            refine r_aload_n hX dX3_buyerComes_147 rfl ?_
            refine r_getR hX dX3_buyerComes_148 fl_X3_15 (hC.1 0 (2, 0) rfl) rfl (hC.2.1 0 1 1 rfl) ?_
            refine r_iload_n hX dX3_buyerComes_151 rfl ?_
            refine r_aldN hX dX3_buyerComes_152 (hC.1 1 (10, 6) rfl) (by decide) (by omega) (nI (aO A t)) ((hRC90c.1.2.2.2.2.1 t (show t < aT (byT A).2 by rw [hbs.1]; exact htl)).trans (show nI (aO (byT A).2 t) = nI (aO A t) by rw [hbs.2.2.2.1])) ?_
            refine r_bipush hX (nI 20) dX3_buyerComes_153 rfl ?_
            refine r_idivN hX dX3_buyerComes_155 (by omega) (by decide) (by decide) ?_
            refine r_iconst hX (nI 1) dX3_buyerComes_156 rfl ?_
            refine r_iaddN hX dX3_buyerComes_157 ?_
            refine r_min hX dX3_buyerComes_158 cb_X3_70 ⟨Nat.le_of_ble_eq_true rfl, Nat.le_of_ble_eq_true rfl⟩ ⟨Nat.le_of_ble_eq_true rfl, Nat.le_of_ble_eq_true rfl⟩ (Nat.le_of_ble_eq_true rfl) (nI (min 5 (((aO A t) / 20) + 1))) (miI_n (by decide) (by omega)) ?_
            refine r_istore hX [(0, .ref (L.1 (b + 0))), (1, .int (nI h)), (2, .int (nI t)), (3, .int (nI (mn (byB A) t))), (4, .int (nI (apN (aO A t) (mn (byB A) t / 5)))), (5, .int (nI 1)), (6, .int (nI (min 5 (((aO A t) / 20) + 1))))] dX3_buyerComes_161 hN6 rfl ?_
            refine r_aload_n hX dX3_buyerComes_163 rfl ?_
            refine r_getR hX dX3_buyerComes_164 fl_X3_31 (hC.1 0 (2, 0) rfl) rfl (hC.2.1 0 5 4 rfl) ?_
            refine r_iconst hX (nI 1) dX3_buyerComes_167 rfl ?_
            refine r_iload_n hX dX3_buyerComes_168 rfl ?_
            refine r_aload_n hX dX3_buyerComes_169 rfl ?_
            refine r_callVI (As := []) (rest := [.int (nI t), .int (nI 1), .ref (L.1 (b + 4))]) hX (c_X3_draw b hC σ88 (byC A) hRC90c.1 hRC90c.2.1 hRC90c.2.2 hvC) dX3_buyerComes_170 cb_X3_156 (hC.1 0 (2, 0) rfl) rfl rfl ⟨Nat.le_of_ble_eq_true rfl, Nat.le_of_ble_eq_true rfl⟩ ⟨Nat.le_of_ble_eq_true rfl, Nat.le_of_ble_eq_true rfl⟩ (Nat.le_of_ble_eq_true rfl) (fun r97 σ98 h99 => ?_)
            obtain ⟨rfl, hRC100, hS101⟩ := h99
            refine r_aload_n hX dX3_buyerComes_173 rfl ?_
            refine r_getIV hX dX3_buyerComes_174 fl_X3_22 (hC.1 0 (2, 0) rfl) rfl (nI (aN A)) (hRC100.1.2.1.trans (by rw [aN_drA, (byC_same A).2.1])) ?_
            refine r_iremN hX dX3_buyerComes_177 (by have := drN_lt (aZ (drA (byC A))); omega) (by omega) (by omega) ?_
            refine r_iload_n hX dX3_buyerComes_178 rfl ?_
            refine r_iload hX dX3_buyerComes_179 rfl ?_
            refine r_callVI (As := [.int (nI 1), .int (nI t), .int (nI ((drN (aZ (drA (byC A)))) % (aN A))), .int (nI h), .int (nI (min 5 (((aO A t) / 20) + 1)))]) (rest := []) hX (c_X8_write b hC σ98 (drA (byC A)) hRC100.2.1 (va_setZ hvC) 1 t ((drN (aZ (drA (byC A)))) % (aN A)) h (min 5 (((aO A t) / 20) + 1))) dX3_buyerComes_181 cb_X3_175 (hC.1 4 (7, 0) rfl) rfl rfl ⟨Nat.le_of_ble_eq_true rfl, Nat.le_of_ble_eq_true rfl⟩ ⟨Nat.le_of_ble_eq_true rfl, Nat.le_of_ble_eq_true rfl⟩ (Nat.le_of_ble_eq_true rfl) (fun r102 σ103 h104 => ?_)
            obtain ⟨rfl, hw105, hf106⟩ := h104
            unfold wrA at hw105
            rw [if_pos (show aW (drA (byC A)) < 24 by rw [aW_drA]; omega)] at hw105
            have hRC107 : RC L σ103 b (addW (drA (byC A)) 1 t ((drN (aZ (drA (byC A)))) % (aN A)) h (min 5 (((aO A t) / 20) + 1))) := RC.addW ⟨hRC100.1, hRC100.2.1, hRC100.2.2⟩ (by omega) hw105 hf106
            refine r_pop hX dX3_buyerComes_184 rfl ?_
            refine r_bipush hX (nI 10) dX3_buyerComes_185 rfl ?_
            refine r_iload_n hX dX3_buyerComes_187 rfl ?_
            refine r_imulN hX dX3_buyerComes_188 ?_
            refine r_iload hX dX3_buyerComes_189 rfl ?_
            refine r_iaddN hX dX3_buyerComes_191 ?_
            exact r_ireturn hX hQ dX3_buyerComes_192 ⟨Nat.le_of_ble_eq_true rfl, Nat.le_of_ble_eq_true rfl⟩ (PI.mk (by have hw : byW A = true := (by unfold byW; rw [hF, decide_eq_true (show drN (aZ (byC A)) % 100 < _ from c92), decide_eq_true (show 0 < aN A by omega), decide_eq_true (show aW A < 24 by omega)]; rfl); have hs : byS A = min 5 (aO A t / 20 + 1) := (by unfold byS; rw [← ht0]); refine ⟨by unfold byR; rw [if_pos hw, hs, ← ht0], ?_, (Cb.tr (Cb.tr (Cb.tr (Cb.up (Cb.tr (Cb.tr (Cb.rf b σ) hS6) hS63) (by omega)) hS91) hS101) hf106.cb)⟩; unfold byE; rw [if_pos hw, hs, ← ht0]; exact hRC107))
          · skip
            refine r_bipush hX (nI 10) dX3_buyerComes_141 rfl ?_
            refine r_iload_n hX dX3_buyerComes_143 rfl ?_
            refine r_imulN hX dX3_buyerComes_144 ?_
            exact r_ireturn hX hQ dX3_buyerComes_145 ⟨Nat.le_of_ble_eq_true rfl, Nat.le_of_ble_eq_true rfl⟩ (PI.mk (by have hw : byW A = false := (by unfold byW; rw [decide_eq_false (show ¬ aW A < 24 by omega), Bool.and_false]); refine ⟨by unfold byR; rw [if_neg (by rw [hw]; decide), ← ht0]; rfl, ?_, (Cb.tr (Cb.up (Cb.tr (Cb.tr (Cb.rf b σ) hS6) hS63) (by omega)) hS91)⟩; unfold byE; rw [if_neg (by rw [hw]; decide)]; exact hRC90c))
