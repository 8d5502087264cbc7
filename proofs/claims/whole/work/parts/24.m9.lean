set_option maxHeartbeats 4000000 in
set_option maxRecDepth 100000 in
theorem c_X10_clean {l : Launch} {D : Ds} {L : La} (hM : MAt L) (σ : Me) (A : Al) (hR : RM (σ 1) A) (hV : Va A) (v : Int32) : Ct l yX10_clean cX10_clean 4 (some .int) { frames := 4, cells := 0, slots := 0, locals := 89 } D L σ [.ref (L.1 0), .int v] (PI L (fun r σ2 => r = (oClean A v).1 ∧ RM (σ2 1) (oClean A v).2 ∧ S1 σ σ2)) := by
  refine Ct.of (by decide) (Nat.le_of_ble_eq_true rfl) ?_
  intro X hl hD hnl hX0 hQ
  have hX : Ok X cX10_clean RX10 "clean" { frames := 4, cells := 0, slots := 0, locals := 89 } (some .int) := hX0
  have hN2 : 2 < xn X := by rw [hnl]; decide
  have hN3 : 3 < xn X := by rw [hnl]; decide
  have hT := hV.1
  have hNn := hV.2.1
  have hW := hV.2.2.1
  show At X L σ 0 0 [(0, .ref (L.1 0)), (1, .int v)] 0 []
  refine r_iload_n hX dX10_clean_0 rfl ?_
  refine r_iconst hX (nI 0) dX10_clean_1 rfl ?_
  refine r_bipush hX (nI 10) dX10_clean_2 rfl ?_
  refine r_callSF (As := [.int v, .int (nI 0), .int (nI 10)]) (rest := []) hX (c_X10_in σ v (nI 0) (nI 10)) dX10_clean_4 cb_X10_68 rfl rfl ⟨Nat.le_of_ble_eq_true rfl, Nat.le_of_ble_eq_true rfl⟩ ⟨Nat.le_of_ble_eq_true rfl, Nat.le_of_ble_eq_true rfl⟩ (Nat.le_of_ble_eq_true rfl) ?_
  refine r_ifB_ne hX dX10_clean_7 (fun c1 => ?_) (fun c1 => ?_)
  · skip
    obtain ⟨q, hql, hq, rfl⟩ := inB_nat c1 (by decide) (by decide)
    refine r_aload_n hX dX10_clean_13 rfl ?_
    refine r_getR hX dX10_clean_14 fl_X10_9 (hM.1 0 (9, 0) rfl) rfl (hM.2 0 1 rfl) ?_
    refine r_iconst hX (nI 2) dX10_clean_17 rfl ?_
    refine r_aldN hX dX10_clean_18 (hM.1 1 (10, 1605) rfl) (by decide) (by decide) (nI (aW A)) hR.2.2.1 ?_
    refine r_istore_n hX [(0, .ref (L.1 0)), (1, .int (nI q)), (2, .int (nI (aW A)))] dX10_clean_19 hN2 rfl ?_
    refine r_iconst hX (nI 0) dX10_clean_20 rfl ?_
    refine r_istore_n hX [(0, .ref (L.1 0)), (1, .int (nI q)), (2, .int (nI (aW A))), (3, .int (nI 0))] dX10_clean_21 hN3 rfl ?_
    have P2 : ∀ k, k ≤ aW A → ∀ (σk : Me) (hSk : S1 σ σk) (hRk : RM (σk 1) A) (ht : ∀ w, w < k → σk 8 w = bI (decide (q ≤ sgN A w))), At X L σk 0 0 [(0, .ref (L.1 0)), (1, .int (nI q)), (2, .int (nI (aW A))), (3, .int (nI k))] 22 [] := by
      refine loopUp (aW A) ?_ ?_
      · skip
        intro σk hSk hRk ht
        refine r_iload_n hX dX10_clean_22 rfl ?_
        refine r_iload_n hX dX10_clean_23 rfl ?_
        refine r_icmpN_ge hX dX10_clean_24 (by omega) (by omega) (fun c3 => ?_) (fun c3 => absurd c3 (by omega))
        refine r_iload_n hX dX10_clean_53 rfl ?_
        refine r_iconst hX (nI 1) dX10_clean_54 rfl ?_
        refine r_isub hX dX10_clean_55 ?_
        refine r_istore_n hX [(0, .ref (L.1 0)), (1, .int (nI q)), (2, .int (nI (aW A))), (3, .int ((nI (aW A)) - (nI 1)))] dX10_clean_56 hN3 rfl ?_
        have P4 : ∀ i, i ≤ aW A → ∀ (σj : Me) (hRk : RM (σj 1) (dlK A q i)) (hSj : S1 σ σj) (ht2 : ∀ w, w < aW A → σj 8 w = bI (decide (q ≤ sgN A w))), At X L σj 0 0 [(0, .ref (L.1 0)), (1, .int (nI q)), (2, .int (nI (aW A))), (3, .int (nI (aW A) - nI 1 - nI i))] 57 [] := by
          refine loopUp (aW A) ?_ ?_
          · skip
            intro σj hRk hSj ht2
            have hdk := dlK_ok hV q (aW A) (Nat.le_refl _)
            rw [decW0 (aW A) hW]
            refine r_iload_n hX dX10_clean_57 rfl ?_
            refine r_if_lt hX dX10_clean_58 (fun c5 => ?_) (fun c5 => absurd c5 (by decide))
            refine r_iload_n hX dX10_clean_81 rfl ?_
            refine r_aload_n hX dX10_clean_82 rfl ?_
            refine r_getR hX dX10_clean_83 fl_X10_9 (hM.1 0 (9, 0) rfl) rfl (hM.2 0 1 rfl) ?_
            refine r_iconst hX (nI 2) dX10_clean_86 rfl ?_
            refine r_aldN hX dX10_clean_87 (hM.1 1 (10, 1605) rfl) (by decide) (by decide) (nI (aW (dlK A q (aW A)))) hRk.2.2.1 ?_
            refine r_isubN hX dX10_clean_88 (by omega) ?_
            exact r_ireturn hX hQ dX10_clean_89 ⟨Nat.le_of_ble_eq_true rfl, Nat.le_of_ble_eq_true rfl⟩ (PI.mk (by rw [oClean, if_pos c1, nI_clamp (by omega)]; exact ⟨rfl, hRk, hSj⟩))
          · skip
            intro i hi ih6 σj hRk hSj ht2
            have hdk := dlK_ok hV q i (by omega)
            rw [show nI (aW A) - nI 1 - nI i = nI (aW A - 1 - i) by rw [pk_sub (by omega), pk_sub (by omega)]]
            refine r_iload_n hX dX10_clean_57 rfl ?_
            refine r_ifN_lt hX dX10_clean_58 (by omega) ?_
            refine r_aload_n hX dX10_clean_61 rfl ?_
            refine r_getR hX dX10_clean_62 fl_X10_31 (hM.1 0 (9, 0) rfl) rfl (hM.2 16 8 rfl) ?_
            refine r_iload_n hX dX10_clean_65 rfl ?_
            refine r_zaldN hX dX10_clean_66 (hM.1 8 (12, 24) rfl) (by decide) (by omega) (bI (decide (q ≤ sgN A (aW A - 1 - i)))) (ht2 _ (by omega)) ?_
            refine r_ifB_eq hX dX10_clean_67 (fun c7 => ?_) (fun c7 => ?_)
            · skip
              refine r_iinc hX (nI (aW A - 1 - i) + (-1)) [(0, .ref (L.1 0)), (1, .int (nI q)), (2, .int (nI (aW A))), (3, .int (nI (aW A - 1 - i) + (-1)))] dX10_clean_75 rfl rfl hN3 rfl ?_
              refine r_goto hX dX10_clean_78 ?_
              have q8 : (nI (aW A) - nI 1 - nI (i + 1)) = (nI (aW A - 1 - i) + (-1)) := (decW (aW A) hW i hi)
              exact At.to (ih6 _ (by rw [dlK, if_neg (of_decide_eq_false c7)]; exact hRk) hSj ht2) (by rw [q8]) rfl rfl
            · skip
              refine r_aload_n hX dX10_clean_70 rfl ?_
              refine r_iload_n hX dX10_clean_71 rfl ?_
              refine r_callVV (As := [.int (nI (aW A - 1 - i))]) (rest := []) hX (c_X10_goes hM σj (dlK A q i) hRk (dlK_ok hV q i (by omega)).1 (aW A - 1 - i) (by omega)) dX10_clean_72 cb_X10_146 (hM.1 0 (9, 0) rfl) rfl rfl ⟨Nat.le_of_ble_eq_true rfl, Nat.le_of_ble_eq_true rfl⟩ ⟨Nat.le_of_ble_eq_true rfl, Nat.le_of_ble_eq_true rfl⟩ (Nat.le_of_ble_eq_true rfl) (fun σ9 h10 => ?_)
              obtain ⟨hR11, hO12⟩ := h10
              refine r_iinc hX (nI (aW A - 1 - i) + (-1)) [(0, .ref (L.1 0)), (1, .int (nI q)), (2, .int (nI (aW A))), (3, .int (nI (aW A - 1 - i) + (-1)))] dX10_clean_75 rfl rfl hN3 rfl ?_
              refine r_goto hX dX10_clean_78 ?_
              have q13 : (nI (aW A) - nI 1 - nI (i + 1)) = (nI (aW A - 1 - i) + (-1)) := (decW (aW A) hW i hi)
              exact At.to (ih6 _ (by rw [dlK, if_pos (of_decide_eq_true c7)]; exact hR11) (S1.tr hSj hO12.s1) (fun w h => by rw [hO12.row (by decide)]; exact ht2 w h)) (by rw [q13]) rfl rfl
        exact At.to (P4 0 (Nat.zero_le _) σk hRk hSk ht) (by rw [show nI (aW A) - nI 1 - nI 0 = nI (aW A) - nI 1 from by rw [nI_0, Int32.sub_zero]]) rfl rfl
      · skip
        intro k hk ih14 σk hSk hRk ht
        have hs := sgN_le A k
        refine r_iload_n hX dX10_clean_22 rfl ?_
        refine r_iload_n hX dX10_clean_23 rfl ?_
        refine r_icmpN_ge hX dX10_clean_24 (by omega) (by omega) (fun c15 => absurd c15 (by omega)) (fun c15 => ?_)
        refine r_aload_n hX dX10_clean_27 rfl ?_
        refine r_getR hX dX10_clean_28 fl_X10_31 (hM.1 0 (9, 0) rfl) rfl (hM.2 16 8 rfl) ?_
        refine r_iload_n hX dX10_clean_31 rfl ?_
        refine r_aload_n hX dX10_clean_32 rfl ?_
        refine r_iload_n hX dX10_clean_33 rfl ?_
        refine r_callVI (As := [.int (nI k)]) (rest := [.int (nI k), .ref (L.1 8)]) hX (c_X10_sign hM σk A hRk hV k (by omega)) dX10_clean_34 cb_X10_135 (hM.1 0 (9, 0) rfl) rfl rfl ⟨Nat.le_of_ble_eq_true rfl, Nat.le_of_ble_eq_true rfl⟩ ⟨Nat.le_of_ble_eq_true rfl, Nat.le_of_ble_eq_true rfl⟩ (Nat.le_of_ble_eq_true rfl) (fun r16 σ17 h18 => ?_)
        obtain ⟨rfl, hS19⟩ := h18
        have hR20 := hS19.rm hRk
        refine r_iload_n hX dX10_clean_37 rfl ?_
        refine r_icmpN_lt hX dX10_clean_38 (by omega) (by omega) (fun c21 => ?_) (fun c21 => ?_)
        · skip
          refine r_iconst hX (nI 0) dX10_clean_45 rfl ?_
          refine r_zastN hX dX10_clean_46 (hM.1 8 (12, 24) rfl) (by decide) (by omega) rfl ?_
          refine r_iincN (n := 1) hX [(0, .ref (L.1 0)), (1, .int (nI q)), (2, .int (nI (aW A))), (3, .int (nI (k + 1)))] dX10_clean_47 rfl hN3 rfl ?_
          refine r_goto hX dX10_clean_50 ?_
          exact At.to (ih14 _ (S1.up (S1.tr hSk hS19.s1) (Or.inr rfl)) (by rw [up_row (by decide)]; exact hR20) (tak_s (fun w h => by rw [hS19.row (by decide) (by decide)]; exact ht w h) (bI_f (decide_eq_false (by omega))).symm)) rfl rfl rfl
        · skip
          refine r_iconst hX (nI 1) dX10_clean_41 rfl ?_
          refine r_goto hX dX10_clean_42 ?_
          refine r_zastN hX dX10_clean_46 (hM.1 8 (12, 24) rfl) (by decide) (by omega) rfl ?_
          refine r_iincN (n := 1) hX [(0, .ref (L.1 0)), (1, .int (nI q)), (2, .int (nI (aW A))), (3, .int (nI (k + 1)))] dX10_clean_47 rfl hN3 rfl ?_
          refine r_goto hX dX10_clean_50 ?_
          exact At.to (ih14 _ (S1.up (S1.tr hSk hS19.s1) (Or.inr rfl)) (by rw [up_row (by decide)]; exact hR20) (tak_s (fun w h => by rw [hS19.row (by decide) (by decide)]; exact ht w h) (bI_t (decide_eq_true c21)).symm)) rfl rfl rfl
    exact At.to (P2 0 (Nat.zero_le _) σ (S1.rf σ) hR (fun w h => absurd h (Nat.not_lt_zero w))) rfl rfl rfl
  · skip
    refine r_ldc hX dX10_clean_10 ko_X10_72 ?_
    exact r_ireturn hX hQ dX10_clean_12 ⟨Nat.le_of_ble_eq_true rfl, Nat.le_of_ble_eq_true rfl⟩ (PI.mk (by rw [oClean, if_neg (by rw [c1]; decide)]; exact ⟨rfl, hR, (S1.rf σ)⟩))

theorem c_X10_heldN {l : Launch} {D : Ds} {L : La} (σ : Me) (a m : Nat) (ha : a < 2 ^ 31) (hm : m < 2 ^ 31) : Ct l yX10_held cX10_held 2 (some .int) { frames := 0, cells := 0, slots := 0, locals := 0 } D L σ [.int (nI a), .int (nI m)] (PF L σ (nI (min m a))) := by
  have h := c_X10_held (l := l) (D := D) (L := L) σ (nI a) (nI m)
  rw [hdI_nat ha hm] at h
  exact h
