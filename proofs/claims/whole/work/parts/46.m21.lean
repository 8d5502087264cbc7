set_option maxHeartbeats 4000000 in
set_option maxRecDepth 100000 in
theorem c_X10_isSheet {l : Launch} {D : Ds} {L : La}  (σ : Me) (k : Int32) : Ct l yX10_isSheet cX10_isSheet 1 (some .boolean) { frames := 1, cells := 0, slots := 0, locals := 22 } D L σ [.int k] (PF L σ (bI (inB k (nI 0) (nI 3)))) := by
  refine Ct.of (by decide) (Nat.le_of_ble_eq_true rfl) ?_
  intro X hl hD hnl hX0 hQ
  have hX : Ok X cX10_isSheet RX10 "isSheet" { frames := 1, cells := 0, slots := 0, locals := 22 } (some .boolean) := hX0
  show At X L σ 0 0 [(0, .int k)] 0 []
  refine r_iload_n hX dX10_isSheet_0 rfl ?_
  refine r_iconst hX (nI 0) dX10_isSheet_1 rfl ?_
  refine r_iconst hX (nI 3) dX10_isSheet_2 rfl ?_
  refine r_callSF (As := [.int k, .int (nI 0), .int (nI 3)]) (rest := []) hX (c_X10_in σ k (nI 0) (nI 3)) dX10_isSheet_3 cb_X10_68 rfl rfl ⟨Nat.le_of_ble_eq_true rfl, Nat.le_of_ble_eq_true rfl⟩ ⟨Nat.le_of_ble_eq_true rfl, Nat.le_of_ble_eq_true rfl⟩ (Nat.le_of_ble_eq_true rfl) ?_
  exact r_zreturn hX hQ dX10_isSheet_6 ⟨Nat.le_of_ble_eq_true rfl, Nat.le_of_ble_eq_true rfl⟩ (nar_bI _) (PF.mk rfl)

set_option maxHeartbeats 4000000 in
set_option maxRecDepth 100000 in
theorem c_X10_isSlot {l : Launch} {D : Ds} {L : La}  (σ : Me) (k : Int32) : Ct l yX10_isSlot cX10_isSlot 1 (some .boolean) { frames := 1, cells := 0, slots := 0, locals := 22 } D L σ [.int k] (PF L σ (bI (inB k (nI 0) (nI 4)))) := by
  refine Ct.of (by decide) (Nat.le_of_ble_eq_true rfl) ?_
  intro X hl hD hnl hX0 hQ
  have hX : Ok X cX10_isSlot RX10 "isSlot" { frames := 1, cells := 0, slots := 0, locals := 22 } (some .boolean) := hX0
  show At X L σ 0 0 [(0, .int k)] 0 []
  refine r_iload_n hX dX10_isSlot_0 rfl ?_
  refine r_iconst hX (nI 0) dX10_isSlot_1 rfl ?_
  refine r_iconst hX (nI 4) dX10_isSlot_2 rfl ?_
  refine r_callSF (As := [.int k, .int (nI 0), .int (nI 4)]) (rest := []) hX (c_X10_in σ k (nI 0) (nI 4)) dX10_isSlot_3 cb_X10_68 rfl rfl ⟨Nat.le_of_ble_eq_true rfl, Nat.le_of_ble_eq_true rfl⟩ ⟨Nat.le_of_ble_eq_true rfl, Nat.le_of_ble_eq_true rfl⟩ (Nat.le_of_ble_eq_true rfl) ?_
  exact r_zreturn hX hQ dX10_isSlot_6 ⟨Nat.le_of_ble_eq_true rfl, Nat.le_of_ble_eq_true rfl⟩ (nar_bI _) (PF.mk rfl)

set_option maxHeartbeats 4000000 in
set_option maxRecDepth 100000 in
theorem c_X10_sheet {l : Launch} {D : Ds} {L : La} (hM : MAt L) (σ : Me) (B : Bs) (hB : RB σ B) (k s n : Int32) : Ct l yX10_sheet cX10_sheet 5 (some .int) { frames := 2, cells := 0, slots := 0, locals := 42 } D L σ [.ref (L.1 0), .int k, .int s, .int n] (PI L (fun r σ2 => r = (oSheet B k s n).1 ∧ RB σ2 (oSheet B k s n).2 ∧ Ex pB σ σ2)) := by
  refine Ct.of (by decide) (Nat.le_of_ble_eq_true rfl) ?_
  intro X hl hD hnl hX0 hQ
  have hX : Ok X cX10_sheet RX10 "sheet" { frames := 2, cells := 0, slots := 0, locals := 42 } (some .int) := hX0
  have hN4 : 4 < xn X := by rw [hnl]; decide
  show At X L σ 0 0 [(0, .ref (L.1 0)), (1, .int k), (2, .int s), (3, .int n)] 0 []
  refine r_iload_n hX dX10_sheet_0 rfl ?_
  refine r_callSF (As := [.int k]) (rest := []) hX (c_X10_isSheet σ k) dX10_sheet_1 cb_X10_343 rfl rfl ⟨Nat.le_of_ble_eq_true rfl, Nat.le_of_ble_eq_true rfl⟩ ⟨Nat.le_of_ble_eq_true rfl, Nat.le_of_ble_eq_true rfl⟩ (Nat.le_of_ble_eq_true rfl) ?_
  refine r_ifB_eq hX dX10_sheet_4 (fun c1 => ?_) (fun c1 => ?_)
  · skip
    refine r_ldc hX dX10_sheet_26 ko_X10_72 ?_
    exact r_ireturn hX hQ dX10_sheet_28 ⟨Nat.le_of_ble_eq_true rfl, Nat.le_of_ble_eq_true rfl⟩ (PI.mk (by rw [oSheet, if_neg (fun e => by rw [c1] at e; cases e.1)]; exact ⟨rfl, hB, Ex.rf σ⟩))
  · skip
    obtain ⟨q, hql, hq, rfl⟩ := inB_nat c1 (by decide) (by decide)
    refine r_iload_n hX dX10_sheet_7 rfl ?_
    refine r_iconst hX (-1) dX10_sheet_8 rfl ?_
    refine r_iconst hX (nI 1) dX10_sheet_9 rfl ?_
    refine r_callSF (As := [.int s, .int (-1), .int (nI 1)]) (rest := []) hX (c_X10_in σ s (-1) (nI 1)) dX10_sheet_10 cb_X10_68 rfl rfl ⟨Nat.le_of_ble_eq_true rfl, Nat.le_of_ble_eq_true rfl⟩ ⟨Nat.le_of_ble_eq_true rfl, Nat.le_of_ble_eq_true rfl⟩ (Nat.le_of_ble_eq_true rfl) ?_
    refine r_ifB_eq hX dX10_sheet_13 (fun c2 => ?_) (fun c2 => ?_)
    · skip
      refine r_ldc hX dX10_sheet_26 ko_X10_72 ?_
      exact r_ireturn hX hQ dX10_sheet_28 ⟨Nat.le_of_ble_eq_true rfl, Nat.le_of_ble_eq_true rfl⟩ (PI.mk (by rw [oSheet, if_neg (fun e => by rw [c2] at e; cases e.2.1)]; exact ⟨rfl, hB, Ex.rf σ⟩))
    · skip
      rcases in_s c2 with rfl | rfl | rfl
      · skip
        refine r_iload_n hX dX10_sheet_16 rfl ?_
        refine r_if_lt hX dX10_sheet_17 (fun c3 => ?_) (fun c3 => absurd c3 (by decide))
        refine r_iload_n hX dX10_sheet_29 rfl ?_
        refine r_if_lt hX dX10_sheet_30 (fun c4 => ?_) (fun c4 => absurd c4 (by decide))
        refine r_aload_n hX dX10_sheet_41 rfl ?_
        refine r_getR hX dX10_sheet_42 fl_X10_44 (hM.1 0 (9, 0) rfl) rfl (hM.2 35 12 rfl) ?_
        refine r_iload_n hX dX10_sheet_45 rfl ?_
        refine r_iload_n hX dX10_sheet_46 rfl ?_
        refine r_astN hX dX10_sheet_47 (hM.1 12 (10, 4) rfl) (by decide) (by omega) ?_
        refine r_aload_n hX dX10_sheet_48 rfl ?_
        refine r_getR hX dX10_sheet_49 fl_X10_47 (hM.1 0 (9, 0) rfl) rfl (hM.2 36 13 rfl) ?_
        refine r_iload_n hX dX10_sheet_52 rfl ?_
        refine r_iload_n hX dX10_sheet_53 rfl ?_
        refine r_if_ge hX dX10_sheet_54 (fun c5 => absurd c5 (by decide)) (fun c5 => ?_)
        refine r_iconst hX (nI 0) dX10_sheet_57 rfl ?_
        refine r_goto hX dX10_sheet_58 ?_
        refine r_astN hX dX10_sheet_62 (hM.1 13 (10, 4) rfl) (by decide) (by omega) ?_
        refine r_iconst hX (nI 0) dX10_sheet_63 rfl ?_
        refine r_istore hX [(0, .ref (L.1 0)), (1, .int (nI q)), (2, .int (-1)), (3, .int n), (4, .int (nI 0))] dX10_sheet_64 hN4 rfl ?_
        have P6 : ∀ j, j ≤ 24 → ∀ (σk : Me) (h12 : σk 12 q = srI none) (h13 : σk 13 q = nI 0) (h14 : ∀ i, i < j → σk 14 (24 * q + i) = nI 0) (f12 : ∀ j, j ≠ q → σk 12 j = σ 12 j) (f13 : ∀ j, j ≠ q → σk 13 j = σ 13 j) (f14 : ∀ j, j < 24 * q ∨ 24 * q + 24 ≤ j → σk 14 j = σ 14 j) (hEk : Ex pB σ σk), At X L σk 0 0 [(0, .ref (L.1 0)), (1, .int (nI q)), (2, .int (-1)), (3, .int n), (4, .int (nI j))] 66 [] := by
          refine loopUp 24 ?_ ?_
          · skip
            intro σk h12 h13 h14 f12 f13 f14 hEk
            refine r_iload hX dX10_sheet_66 rfl ?_
            refine r_bipush hX (nI 24) dX10_sheet_68 rfl ?_
            refine r_icmpN_ge hX dX10_sheet_70 (by decide) (by decide) (fun c7 => ?_) (fun c7 => absurd c7 (by decide))
            refine r_aload_n hX dX10_sheet_92 rfl ?_
            refine r_getR hX dX10_sheet_93 fl_X10_47 (hM.1 0 (9, 0) rfl) rfl (hM.2 36 13 rfl) ?_
            refine r_iload_n hX dX10_sheet_96 rfl ?_
            refine r_aldN hX dX10_sheet_97 (hM.1 13 (10, 4) rfl) (by decide) (by omega) (nI 0) h13 ?_
            exact r_ireturn hX hQ dX10_sheet_98 ⟨Nat.le_of_ble_eq_true rfl, Nat.le_of_ble_eq_true rfl⟩ (PI.mk (by rw [oSheet, if_pos ⟨c1, c2, fun e => e.1 (by decide)⟩, if_neg (fun e => e.1 (by decide)), if_pos (by decide), if_pos (by decide), nI_clamp (n := q) (by omega)]; exact ⟨rfl, rb_set (o := none) (n := 0) hB (by omega) (by omega) h12 h13 h14 f12 f13 f14, hEk⟩))
          · skip
            intro j hj ih8 σk h12 h13 h14 f12 f13 f14 hEk
            refine r_iload hX dX10_sheet_66 rfl ?_
            refine r_bipush hX (nI 24) dX10_sheet_68 rfl ?_
            refine r_icmpN_ge hX dX10_sheet_70 (by omega) (by decide) (fun c9 => absurd c9 (by omega)) (fun c9 => ?_)
            refine r_aload_n hX dX10_sheet_73 rfl ?_
            refine r_getR hX dX10_sheet_74 fl_X10_50 (hM.1 0 (9, 0) rfl) rfl (hM.2 37 14 rfl) ?_
            refine r_bipush hX (nI 24) dX10_sheet_77 rfl ?_
            refine r_iload_n hX dX10_sheet_79 rfl ?_
            refine r_imulN hX dX10_sheet_80 ?_
            refine r_iload hX dX10_sheet_81 rfl ?_
            refine r_iaddN hX dX10_sheet_83 ?_
            refine r_iconst hX (nI 0) dX10_sheet_84 rfl ?_
            refine r_astN hX dX10_sheet_85 (hM.1 14 (10, 96) rfl) (by decide) (by omega) ?_
            refine r_iincN (n := 1) hX [(0, .ref (L.1 0)), (1, .int (nI q)), (2, .int (-1)), (3, .int n), (4, .int (nI (j + 1)))] dX10_sheet_86 rfl hN4 rfl ?_
            refine r_goto hX dX10_sheet_89 ?_
            exact At.to (ih8 (up σk 14 (24 * q + j) (nI 0)) ((up_n (by omega)).trans h12) ((up_n (by omega)).trans h13) (fun i hi => if e : i = j then (by rw [e, up_s]) else (by rw [up_n (by omega)]; exact h14 i (by omega))) (fun j hj => (up_n (by omega)).trans (f12 j hj)) (fun j hj => (up_n (by omega)).trans (f13 j hj)) (fun j hj => (up_n (by omega)).trans (f14 j hj)) (Ex.up hEk rfl)) rfl rfl rfl
        exact At.to (P6 0 (Nat.zero_le _) (up (up σ 12 q (-1)) 13 q (nI 0)) ((up_n (by omega)).trans up_s) up_s (fun i hi => absurd hi (Nat.not_lt_zero i)) (fun j hj => (up_n (by omega)).trans (up_n (by omega))) (fun j hj => (up_n (by omega)).trans (up_n (by omega))) (fun j hj => (up_n (by omega)).trans (up_n (by omega))) (Ex.up (Ex.up (Ex.rf σ) rfl) rfl)) rfl rfl rfl
      · skip
        refine r_iload_n hX dX10_sheet_16 rfl ?_
        refine r_ifN_lt hX dX10_sheet_17 (by decide) ?_
        refine r_iload_n hX dX10_sheet_20 rfl ?_
        refine r_bipush hX (nI 24) dX10_sheet_21 rfl ?_
        refine r_icmp_le hX dX10_sheet_23 (fun c10 => ?_) (fun c10 => ?_)
        · skip
          refine r_iload_n hX dX10_sheet_29 rfl ?_
          refine r_ifN_lt hX dX10_sheet_30 (by decide) ?_
          refine r_iload_n hX dX10_sheet_33 rfl ?_
          refine r_if_ge hX dX10_sheet_34 (fun c11 => ?_) (fun c11 => ?_)
          · skip
            obtain ⟨m, hm, rfl⟩ := n24 (Int32.not_lt.mpr c11) (Int32.not_lt.mpr c10)
            refine r_aload_n hX dX10_sheet_41 rfl ?_
            refine r_getR hX dX10_sheet_42 fl_X10_44 (hM.1 0 (9, 0) rfl) rfl (hM.2 35 12 rfl) ?_
            refine r_iload_n hX dX10_sheet_45 rfl ?_
            refine r_iload_n hX dX10_sheet_46 rfl ?_
            refine r_astN hX dX10_sheet_47 (hM.1 12 (10, 4) rfl) (by decide) (by omega) ?_
            refine r_aload_n hX dX10_sheet_48 rfl ?_
            refine r_getR hX dX10_sheet_49 fl_X10_47 (hM.1 0 (9, 0) rfl) rfl (hM.2 36 13 rfl) ?_
            refine r_iload_n hX dX10_sheet_52 rfl ?_
            refine r_iload_n hX dX10_sheet_53 rfl ?_
            refine r_ifN_ge hX dX10_sheet_54 (by decide) ?_
            refine r_iload_n hX dX10_sheet_61 rfl ?_
            refine r_astN hX dX10_sheet_62 (hM.1 13 (10, 4) rfl) (by decide) (by omega) ?_
            refine r_iconst hX (nI 0) dX10_sheet_63 rfl ?_
            refine r_istore hX [(0, .ref (L.1 0)), (1, .int (nI q)), (2, .int (nI 0)), (3, .int (nI m)), (4, .int (nI 0))] dX10_sheet_64 hN4 rfl ?_
            have P12 : ∀ j, j ≤ 24 → ∀ (σk : Me) (h12 : σk 12 q = srI (some false)) (h13 : σk 13 q = nI m) (h14 : ∀ i, i < j → σk 14 (24 * q + i) = nI 0) (f12 : ∀ j, j ≠ q → σk 12 j = σ 12 j) (f13 : ∀ j, j ≠ q → σk 13 j = σ 13 j) (f14 : ∀ j, j < 24 * q ∨ 24 * q + 24 ≤ j → σk 14 j = σ 14 j) (hEk : Ex pB σ σk), At X L σk 0 0 [(0, .ref (L.1 0)), (1, .int (nI q)), (2, .int (nI 0)), (3, .int (nI m)), (4, .int (nI j))] 66 [] := by
              refine loopUp 24 ?_ ?_
              · skip
                intro σk h12 h13 h14 f12 f13 f14 hEk
                refine r_iload hX dX10_sheet_66 rfl ?_
                refine r_bipush hX (nI 24) dX10_sheet_68 rfl ?_
                refine r_icmpN_ge hX dX10_sheet_70 (by decide) (by decide) (fun c13 => ?_) (fun c13 => absurd c13 (by decide))
                refine r_aload_n hX dX10_sheet_92 rfl ?_
                refine r_getR hX dX10_sheet_93 fl_X10_47 (hM.1 0 (9, 0) rfl) rfl (hM.2 36 13 rfl) ?_
                refine r_iload_n hX dX10_sheet_96 rfl ?_
                refine r_aldN hX dX10_sheet_97 (hM.1 13 (10, 4) rfl) (by decide) (by omega) (nI m) h13 ?_
                exact r_ireturn hX hQ dX10_sheet_98 ⟨Nat.le_of_ble_eq_true rfl, Nat.le_of_ble_eq_true rfl⟩ (PI.mk (by rw [oSheet, if_pos ⟨c1, c2, fun e => (Int32.not_lt.mpr c10) e.2⟩, if_neg (fun e => (Int32.not_lt.mpr c11) e.2), if_neg (by decide), if_neg (by decide), nI_clamp (n := m) (by omega), nI_clamp (n := q) (by omega)]; exact ⟨rfl, rb_set (o := (some false)) (n := m) hB (by omega) (by omega) h12 h13 h14 f12 f13 f14, hEk⟩))
              · skip
                intro j hj ih14 σk h12 h13 h14 f12 f13 f14 hEk
                refine r_iload hX dX10_sheet_66 rfl ?_
                refine r_bipush hX (nI 24) dX10_sheet_68 rfl ?_
                refine r_icmpN_ge hX dX10_sheet_70 (by omega) (by decide) (fun c15 => absurd c15 (by omega)) (fun c15 => ?_)
                refine r_aload_n hX dX10_sheet_73 rfl ?_
                refine r_getR hX dX10_sheet_74 fl_X10_50 (hM.1 0 (9, 0) rfl) rfl (hM.2 37 14 rfl) ?_
                refine r_bipush hX (nI 24) dX10_sheet_77 rfl ?_
                refine r_iload_n hX dX10_sheet_79 rfl ?_
                refine r_imulN hX dX10_sheet_80 ?_
                refine r_iload hX dX10_sheet_81 rfl ?_
                refine r_iaddN hX dX10_sheet_83 ?_
                refine r_iconst hX (nI 0) dX10_sheet_84 rfl ?_
                refine r_astN hX dX10_sheet_85 (hM.1 14 (10, 96) rfl) (by decide) (by omega) ?_
                refine r_iincN (n := 1) hX [(0, .ref (L.1 0)), (1, .int (nI q)), (2, .int (nI 0)), (3, .int (nI m)), (4, .int (nI (j + 1)))] dX10_sheet_86 rfl hN4 rfl ?_
                refine r_goto hX dX10_sheet_89 ?_
                exact At.to (ih14 (up σk 14 (24 * q + j) (nI 0)) ((up_n (by omega)).trans h12) ((up_n (by omega)).trans h13) (fun i hi => if e : i = j then (by rw [e, up_s]) else (by rw [up_n (by omega)]; exact h14 i (by omega))) (fun j hj => (up_n (by omega)).trans (f12 j hj)) (fun j hj => (up_n (by omega)).trans (f13 j hj)) (fun j hj => (up_n (by omega)).trans (f14 j hj)) (Ex.up hEk rfl)) rfl rfl rfl
            exact At.to (P12 0 (Nat.zero_le _) (up (up σ 12 q (nI 0)) 13 q (nI m)) ((up_n (by omega)).trans up_s) up_s (fun i hi => absurd hi (Nat.not_lt_zero i)) (fun j hj => (up_n (by omega)).trans (up_n (by omega))) (fun j hj => (up_n (by omega)).trans (up_n (by omega))) (fun j hj => (up_n (by omega)).trans (up_n (by omega))) (Ex.up (Ex.up (Ex.rf σ) rfl) rfl)) rfl rfl rfl
          · skip
            refine r_ldcw hX dX10_sheet_37 ko_X10_346 ?_
            exact r_ireturn hX hQ dX10_sheet_40 ⟨Nat.le_of_ble_eq_true rfl, Nat.le_of_ble_eq_true rfl⟩ (PI.mk (by rw [oSheet, if_pos ⟨c1, c2, fun e => (Int32.not_lt.mpr c10) e.2⟩, if_pos ⟨by decide, Int32.not_le.mp c11⟩]; exact ⟨rfl, hB, Ex.rf σ⟩))
        · skip
          refine r_ldc hX dX10_sheet_26 ko_X10_72 ?_
          exact r_ireturn hX hQ dX10_sheet_28 ⟨Nat.le_of_ble_eq_true rfl, Nat.le_of_ble_eq_true rfl⟩ (PI.mk (by rw [oSheet, if_neg (fun e => e.2.2 ⟨by decide, Int32.not_le.mp c10⟩)]; exact ⟨rfl, hB, Ex.rf σ⟩))
      · skip
        refine r_iload_n hX dX10_sheet_16 rfl ?_
        refine r_ifN_lt hX dX10_sheet_17 (by decide) ?_
        refine r_iload_n hX dX10_sheet_20 rfl ?_
        refine r_bipush hX (nI 24) dX10_sheet_21 rfl ?_
        refine r_icmp_le hX dX10_sheet_23 (fun c16 => ?_) (fun c16 => ?_)
        · skip
          refine r_iload_n hX dX10_sheet_29 rfl ?_
          refine r_ifN_lt hX dX10_sheet_30 (by decide) ?_
          refine r_iload_n hX dX10_sheet_33 rfl ?_
          refine r_if_ge hX dX10_sheet_34 (fun c17 => ?_) (fun c17 => ?_)
          · skip
            obtain ⟨m, hm, rfl⟩ := n24 (Int32.not_lt.mpr c17) (Int32.not_lt.mpr c16)
            refine r_aload_n hX dX10_sheet_41 rfl ?_
            refine r_getR hX dX10_sheet_42 fl_X10_44 (hM.1 0 (9, 0) rfl) rfl (hM.2 35 12 rfl) ?_
            refine r_iload_n hX dX10_sheet_45 rfl ?_
            refine r_iload_n hX dX10_sheet_46 rfl ?_
            refine r_astN hX dX10_sheet_47 (hM.1 12 (10, 4) rfl) (by decide) (by omega) ?_
            refine r_aload_n hX dX10_sheet_48 rfl ?_
            refine r_getR hX dX10_sheet_49 fl_X10_47 (hM.1 0 (9, 0) rfl) rfl (hM.2 36 13 rfl) ?_
            refine r_iload_n hX dX10_sheet_52 rfl ?_
            refine r_iload_n hX dX10_sheet_53 rfl ?_
            refine r_ifN_ge hX dX10_sheet_54 (by decide) ?_
            refine r_iload_n hX dX10_sheet_61 rfl ?_
            refine r_astN hX dX10_sheet_62 (hM.1 13 (10, 4) rfl) (by decide) (by omega) ?_
            refine r_iconst hX (nI 0) dX10_sheet_63 rfl ?_
            refine r_istore hX [(0, .ref (L.1 0)), (1, .int (nI q)), (2, .int (nI 1)), (3, .int (nI m)), (4, .int (nI 0))] dX10_sheet_64 hN4 rfl ?_
            have P18 : ∀ j, j ≤ 24 → ∀ (σk : Me) (h12 : σk 12 q = srI (some true)) (h13 : σk 13 q = nI m) (h14 : ∀ i, i < j → σk 14 (24 * q + i) = nI 0) (f12 : ∀ j, j ≠ q → σk 12 j = σ 12 j) (f13 : ∀ j, j ≠ q → σk 13 j = σ 13 j) (f14 : ∀ j, j < 24 * q ∨ 24 * q + 24 ≤ j → σk 14 j = σ 14 j) (hEk : Ex pB σ σk), At X L σk 0 0 [(0, .ref (L.1 0)), (1, .int (nI q)), (2, .int (nI 1)), (3, .int (nI m)), (4, .int (nI j))] 66 [] := by
              refine loopUp 24 ?_ ?_
              · skip
                intro σk h12 h13 h14 f12 f13 f14 hEk
                refine r_iload hX dX10_sheet_66 rfl ?_
                refine r_bipush hX (nI 24) dX10_sheet_68 rfl ?_
                refine r_icmpN_ge hX dX10_sheet_70 (by decide) (by decide) (fun c19 => ?_) (fun c19 => absurd c19 (by decide))
                refine r_aload_n hX dX10_sheet_92 rfl ?_
                refine r_getR hX dX10_sheet_93 fl_X10_47 (hM.1 0 (9, 0) rfl) rfl (hM.2 36 13 rfl) ?_
                refine r_iload_n hX dX10_sheet_96 rfl ?_
                refine r_aldN hX dX10_sheet_97 (hM.1 13 (10, 4) rfl) (by decide) (by omega) (nI m) h13 ?_
                exact r_ireturn hX hQ dX10_sheet_98 ⟨Nat.le_of_ble_eq_true rfl, Nat.le_of_ble_eq_true rfl⟩ (PI.mk (by rw [oSheet, if_pos ⟨c1, c2, fun e => (Int32.not_lt.mpr c16) e.2⟩, if_neg (fun e => (Int32.not_lt.mpr c17) e.2), if_neg (by decide), if_neg (by decide), nI_clamp (n := m) (by omega), nI_clamp (n := q) (by omega)]; exact ⟨rfl, rb_set (o := (some true)) (n := m) hB (by omega) (by omega) h12 h13 h14 f12 f13 f14, hEk⟩))
              · skip
                intro j hj ih20 σk h12 h13 h14 f12 f13 f14 hEk
                refine r_iload hX dX10_sheet_66 rfl ?_
                refine r_bipush hX (nI 24) dX10_sheet_68 rfl ?_
                refine r_icmpN_ge hX dX10_sheet_70 (by omega) (by decide) (fun c21 => absurd c21 (by omega)) (fun c21 => ?_)
                refine r_aload_n hX dX10_sheet_73 rfl ?_
                refine r_getR hX dX10_sheet_74 fl_X10_50 (hM.1 0 (9, 0) rfl) rfl (hM.2 37 14 rfl) ?_
                refine r_bipush hX (nI 24) dX10_sheet_77 rfl ?_
                refine r_iload_n hX dX10_sheet_79 rfl ?_
                refine r_imulN hX dX10_sheet_80 ?_
                refine r_iload hX dX10_sheet_81 rfl ?_
                refine r_iaddN hX dX10_sheet_83 ?_
                refine r_iconst hX (nI 0) dX10_sheet_84 rfl ?_
                refine r_astN hX dX10_sheet_85 (hM.1 14 (10, 96) rfl) (by decide) (by omega) ?_
                refine r_iincN (n := 1) hX [(0, .ref (L.1 0)), (1, .int (nI q)), (2, .int (nI 1)), (3, .int (nI m)), (4, .int (nI (j + 1)))] dX10_sheet_86 rfl hN4 rfl ?_
                refine r_goto hX dX10_sheet_89 ?_
                exact At.to (ih20 (up σk 14 (24 * q + j) (nI 0)) ((up_n (by omega)).trans h12) ((up_n (by omega)).trans h13) (fun i hi => if e : i = j then (by rw [e, up_s]) else (by rw [up_n (by omega)]; exact h14 i (by omega))) (fun j hj => (up_n (by omega)).trans (f12 j hj)) (fun j hj => (up_n (by omega)).trans (f13 j hj)) (fun j hj => (up_n (by omega)).trans (f14 j hj)) (Ex.up hEk rfl)) rfl rfl rfl
            exact At.to (P18 0 (Nat.zero_le _) (up (up σ 12 q (nI 1)) 13 q (nI m)) ((up_n (by omega)).trans up_s) up_s (fun i hi => absurd hi (Nat.not_lt_zero i)) (fun j hj => (up_n (by omega)).trans (up_n (by omega))) (fun j hj => (up_n (by omega)).trans (up_n (by omega))) (fun j hj => (up_n (by omega)).trans (up_n (by omega))) (Ex.up (Ex.up (Ex.rf σ) rfl) rfl)) rfl rfl rfl
          · skip
            refine r_ldcw hX dX10_sheet_37 ko_X10_346 ?_
            exact r_ireturn hX hQ dX10_sheet_40 ⟨Nat.le_of_ble_eq_true rfl, Nat.le_of_ble_eq_true rfl⟩ (PI.mk (by rw [oSheet, if_pos ⟨c1, c2, fun e => (Int32.not_lt.mpr c16) e.2⟩, if_pos ⟨by decide, Int32.not_le.mp c17⟩]; exact ⟨rfl, hB, Ex.rf σ⟩))
        · skip
          refine r_ldc hX dX10_sheet_26 ko_X10_72 ?_
          exact r_ireturn hX hQ dX10_sheet_28 ⟨Nat.le_of_ble_eq_true rfl, Nat.le_of_ble_eq_true rfl⟩ (PI.mk (by rw [oSheet, if_neg (fun e => e.2.2 ⟨by decide, Int32.not_le.mp c16⟩)]; exact ⟨rfl, hB, Ex.rf σ⟩))
