set_option maxHeartbeats 4000000 in
set_option maxRecDepth 100000 in
theorem c_X10_text {l : Launch} {D : Ds} {L : La} (hM : MAt L) (σ : Me) (A : Al) (hR : RM (σ 1) A) (hV : Va A) (P : Tp) (hP : RT σ P) (K : Nat → Nat × Nat) (hMS : MS D K) : Ct l yX10_text cX10_text 4 (some .int) { frames := 81, cells := 0, slots := 0, locals := 2420 } D L σ [.ref (L.1 0)] (PI L (fun r σ2 => r = (oText A P).1 ∧ (RM (σ2 1) (oText A P).2 ∧ σ2 0 5 = nI 0) ∧ Ex pZ σ σ2)) := by
  refine Ct.of (by decide) (Nat.le_of_ble_eq_true rfl) ?_
  intro X hl hD hnl hX0 hQ
  have hX : Ok X cX10_text RX10 "text" { frames := 81, cells := 0, slots := 0, locals := 2420 } (some .int) := hX0
  have hN1 : 1 < xn X := by rw [hnl]; decide
  have hN2 : 2 < xn X := by rw [hnl]; decide
  have hN3 : 3 < xn X := by rw [hnl]; decide
  have hT := hV.1
  have hNn := hV.2.1
  have hW := hV.2.2.1
  have hX14 := hV.2.2.2.1
  show At X L σ 0 0 [(0, .ref (L.1 0))] 0 []
  refine r_aload_n hX dX10_text_0 rfl ?_
  refine r_callVV (As := []) (rest := []) hX (by rw [hl, hD]; exact c_X10_reads hM σ P hP K hMS) dX10_text_1 cb_X10_337 (hM.1 0 (9, 0) rfl) rfl rfl ⟨Nat.le_of_ble_eq_true rfl, Nat.le_of_ble_eq_true rfl⟩ ⟨Nat.le_of_ble_eq_true rfl, Nat.le_of_ble_eq_true rfl⟩ (Nat.le_of_ble_eq_true rfl) (fun σ1 h2 => ?_)
  obtain ⟨hq, hx⟩ := h2
  have hR1 : RM (σ1 1) A := by rw [show σ1 1 = σ 1 from funext fun j => hx 1 j rfl]; exact hR
  rcases hr : rdT P with f | ⟨key, C, n⟩
  · skip
    rw [hr] at hq
    have hq : σ1 0 26 = nI 1 ∧ σ1 0 27 = nI f := hq
    refine r_aload_n hX dX10_text_4 rfl ?_
    refine r_iconst hX (nI 0) dX10_text_5 rfl ?_
    refine r_putI hX dX10_text_6 fl_X10_233 (hM.1 0 (9, 0) rfl) rfl rfl rfl rfl ?_
    refine r_aload_n hX dX10_text_9 rfl ?_
    refine r_getIV hX dX10_text_10 fl_X10_264 (hM.1 0 (9, 0) rfl) rfl (nI 1) (by rw [up_n (by omega)]; exact hq.1) ?_
    refine r_ifN_eq hX dX10_text_13 (by decide) (fun c3 => absurd c3 (by decide)) (fun c3 => ?_)
    refine r_bipush hX (-100) dX10_text_16 rfl ?_
    refine r_aload_n hX dX10_text_18 rfl ?_
    refine r_getIV hX dX10_text_19 fl_X10_267 (hM.1 0 (9, 0) rfl) rfl (nI f) (by rw [up_n (by omega)]; exact hq.2) ?_
    refine r_isub hX dX10_text_22 ?_
    exact r_ireturn hX hQ dX10_text_23 ⟨Nat.le_of_ble_eq_true rfl, Nat.le_of_ble_eq_true rfl⟩ (PI.mk (by rw [oText_f hr]; exact ⟨rfl, ⟨by rw [show (up σ1 0 5 (nI 0)) 1 = σ1 1 from funext fun j => up_n (by omega)]; exact hR1, up_s⟩, Ex.up (pY_pZ hx) rfl⟩))
  · skip
    have hok := rdT_ok (fun k hk => (hP.2.2 k hk).2) hP.2.1 hr
    have hCl : C.length ≤ 92 := hok.2.1
    rw [hr] at hq
    have hq : σ1 0 26 = nI 0 ∧ σ1 0 30 = nI key ∧ σ1 0 31 = nI C.length ∧ σ1 0 32 = nI n ∧ ∀ k, k < C.length → σ1 10 k = nI (C.getD k 0) := hq
    refine r_aload_n hX dX10_text_4 rfl ?_
    refine r_iconst hX (nI 0) dX10_text_5 rfl ?_
    refine r_putI hX dX10_text_6 fl_X10_233 (hM.1 0 (9, 0) rfl) rfl rfl rfl rfl ?_
    refine r_aload_n hX dX10_text_9 rfl ?_
    refine r_getIV hX dX10_text_10 fl_X10_264 (hM.1 0 (9, 0) rfl) rfl (nI 0) (by rw [up_n (by omega)]; exact hq.1) ?_
    refine r_ifN_eq hX dX10_text_13 (by decide) (fun c4 => ?_) (fun c4 => absurd c4 (by decide))
    refine r_aload_n hX dX10_text_24 rfl ?_
    refine r_getR hX dX10_text_25 fl_X10_9 (hM.1 0 (9, 0) rfl) rfl (hM.2 0 1 rfl) ?_
    refine r_iconst hX (nI 3) dX10_text_28 rfl ?_
    refine r_aldN hX dX10_text_29 (hM.1 1 (10, 1605) rfl) (by decide) (by decide) (nI ((aX A).length)) (by rw [up_n (by omega)]; exact hR1.2.2.2.1) ?_
    refine r_istore_n hX [(0, .ref (L.1 0)), (1, .int (nI ((aX A).length)))] dX10_text_30 hN1 rfl ?_
    refine r_iload_n hX dX10_text_31 rfl ?_
    refine r_bipush hX (nI 14) dX10_text_32 rfl ?_
    refine r_icmpN_ne hX dX10_text_34 (by omega) (by decide) (fun c5 => ?_) (fun c5 => ?_)
    · skip
      refine r_sipush hX (nI 149) dX10_text_40 rfl ?_
      refine r_bipush hX (nI 104) dX10_text_43 rfl ?_
      refine r_iload_n hX dX10_text_45 rfl ?_
      refine r_imulN hX dX10_text_46 ?_
      refine r_iaddN hX dX10_text_47 ?_
      refine r_istore_n hX [(0, .ref (L.1 0)), (1, .int (nI ((aX A).length))), (2, .int (nI (149 + (104 * ((aX A).length)))))] dX10_text_48 hN2 rfl ?_
      refine r_aload_n hX dX10_text_49 rfl ?_
      refine r_getR hX dX10_text_50 fl_X10_9 (hM.1 0 (9, 0) rfl) rfl (hM.2 0 1 rfl) ?_
      refine r_iload_n hX dX10_text_53 rfl ?_
      refine r_iconst hX (nI 0) dX10_text_54 rfl ?_
      refine r_iaddN hX dX10_text_55 ?_
      refine r_aload_n hX dX10_text_56 rfl ?_
      refine r_getIV hX dX10_text_57 fl_X10_282 (hM.1 0 (9, 0) rfl) rfl (nI key) (by rw [up_n (by omega)]; exact hq.2.1) ?_
      refine r_astN hX dX10_text_60 (hM.1 1 (10, 1605) rfl) (by decide) (by omega) ?_
      refine r_aload_n hX dX10_text_61 rfl ?_
      refine r_getR hX dX10_text_62 fl_X10_9 (hM.1 0 (9, 0) rfl) rfl (hM.2 0 1 rfl) ?_
      refine r_iload_n hX dX10_text_65 rfl ?_
      refine r_iconst hX (nI 1) dX10_text_66 rfl ?_
      refine r_iaddN hX dX10_text_67 ?_
      refine r_aload_n hX dX10_text_68 rfl ?_
      refine r_getIV hX dX10_text_69 fl_X10_313 (hM.1 0 (9, 0) rfl) rfl (nI n) (by rw [up_n (by omega), up_n (by omega)]; exact hq.2.2.2.1) ?_
      refine r_astN hX dX10_text_72 (hM.1 1 (10, 1605) rfl) (by decide) (by omega) ?_
      refine r_aload_n hX dX10_text_73 rfl ?_
      refine r_getR hX dX10_text_74 fl_X10_9 (hM.1 0 (9, 0) rfl) rfl (hM.2 0 1 rfl) ?_
      refine r_iload_n hX dX10_text_77 rfl ?_
      refine r_iconst hX (nI 2) dX10_text_78 rfl ?_
      refine r_iaddN hX dX10_text_79 ?_
      refine r_aload_n hX dX10_text_80 rfl ?_
      refine r_getIV hX dX10_text_81 fl_X10_270 (hM.1 0 (9, 0) rfl) rfl (nI C.length) (by rw [up_n (by omega), up_n (by omega), up_n (by omega)]; exact hq.2.2.1) ?_
      refine r_astN hX dX10_text_84 (hM.1 1 (10, 1605) rfl) (by decide) (by omega) ?_
      refine r_iconst hX (nI 0) dX10_text_85 rfl ?_
      refine r_istore_n hX [(0, .ref (L.1 0)), (1, .int (nI ((aX A).length))), (2, .int (nI (149 + (104 * ((aX A).length))))), (3, .int (nI 0))] dX10_text_86 hN3 rfl ?_
      have P6 : ∀ k, k ≤ C.length → ∀ (σk : Me) (hA : ∀ j, (j < 149 + 104 * (aX A).length ∨ 149 + 104 * (aX A).length + 104 ≤ j) → σk 1 j = σ1 1 j) (hk0 : σk 1 (149 + 104 * (aX A).length) = nI key) (hk1 : σk 1 (149 + 104 * (aX A).length + 1) = nI n) (hk2 : σk 1 (149 + 104 * (aX A).length + 2) = nI C.length) (hkc : ∀ i, i < k → σk 1 (149 + 104 * (aX A).length + 3 + i) = nI (C.getD i 0)) (h31 : σk 0 31 = nI C.length) (h10 : ∀ i, i < C.length → σk 10 i = nI (C.getD i 0)) (h05 : σk 0 5 = nI 0) (hEk : Ex pZ σ σk), At X L σk 0 0 [(0, .ref (L.1 0)), (1, .int (nI ((aX A).length))), (2, .int (nI (149 + (104 * ((aX A).length))))), (3, .int (nI k))] 87 [] := by
        refine loopUp C.length ?_ ?_
        · skip
          intro σk hA hk0 hk1 hk2 hkc h31 h10 h05 hEk
          refine r_iload_n hX dX10_text_87 rfl ?_
          refine r_aload_n hX dX10_text_88 rfl ?_
          refine r_getIV hX dX10_text_89 fl_X10_270 (hM.1 0 (9, 0) rfl) rfl (nI C.length) h31 ?_
          refine r_icmpN_ge hX dX10_text_92 (by omega) (by omega) (fun c7 => ?_) (fun c7 => absurd c7 (by omega))
          refine r_aload_n hX dX10_text_117 rfl ?_
          refine r_getR hX dX10_text_118 fl_X10_9 (hM.1 0 (9, 0) rfl) rfl (hM.2 0 1 rfl) ?_
          refine r_iconst hX (nI 3) dX10_text_121 rfl ?_
          refine r_dup2 hX dX10_text_122 rfl rfl ?_
          refine r_aldN hX dX10_text_123 (hM.1 1 (10, 1605) rfl) (by decide) (by decide) (nI ((aX A).length)) ((hA 3 (by omega)).trans hR1.2.2.2.1) ?_
          refine r_iconst hX (nI 1) dX10_text_124 rfl ?_
          refine r_iaddN hX dX10_text_125 ?_
          refine r_astN hX dX10_text_126 (hM.1 1 (10, 1605) rfl) (by decide) (by decide) ?_
          refine r_iload_n hX dX10_text_127 rfl ?_
          exact r_ireturn hX hQ dX10_text_128 ⟨Nat.le_of_ble_eq_true rfl, Nat.le_of_ble_eq_true rfl⟩ (PI.mk (by rw [oText_y hr c5]; exact ⟨rfl, ⟨rm_addX hR1 hV (by omega) hCl up_s ((up_n (by omega)).trans hk0) ((up_n (by omega)).trans hk1) ((up_n (by omega)).trans hk2) (fun i hi => (up_n (by omega)).trans (hkc i hi)) (fun j h1 h2 => (up_n (by omega)).trans (hA j h2)), (up_n (by omega)).trans h05⟩, Ex.up hEk rfl⟩))
        · skip
          intro k hk ih8 σk hA hk0 hk1 hk2 hkc h31 h10 h05 hEk
          refine r_iload_n hX dX10_text_87 rfl ?_
          refine r_aload_n hX dX10_text_88 rfl ?_
          refine r_getIV hX dX10_text_89 fl_X10_270 (hM.1 0 (9, 0) rfl) rfl (nI C.length) h31 ?_
          refine r_icmpN_ge hX dX10_text_92 (by omega) (by omega) (fun c9 => absurd c9 (by omega)) (fun c9 => ?_)
          refine r_aload_n hX dX10_text_95 rfl ?_
          refine r_getR hX dX10_text_96 fl_X10_9 (hM.1 0 (9, 0) rfl) rfl (hM.2 0 1 rfl) ?_
          refine r_iload_n hX dX10_text_99 rfl ?_
          refine r_iconst hX (nI 3) dX10_text_100 rfl ?_
          refine r_iaddN hX dX10_text_101 ?_
          refine r_iload_n hX dX10_text_102 rfl ?_
          refine r_iaddN hX dX10_text_103 ?_
          refine r_aload_n hX dX10_text_104 rfl ?_
          refine r_getR hX dX10_text_105 fl_X10_38 (hM.1 0 (9, 0) rfl) rfl (hM.2 33 10 rfl) ?_
          refine r_iload_n hX dX10_text_108 rfl ?_
          refine r_aldN hX dX10_text_109 (hM.1 10 (10, 100) rfl) (by decide) (by omega) (nI (C.getD k 0)) (h10 k (by omega)) ?_
          refine r_astN hX dX10_text_110 (hM.1 1 (10, 1605) rfl) (by decide) (by omega) ?_
          refine r_iincN (n := 1) hX [(0, .ref (L.1 0)), (1, .int (nI ((aX A).length))), (2, .int (nI (149 + (104 * ((aX A).length))))), (3, .int (nI (k + 1)))] dX10_text_111 rfl hN3 rfl ?_
          refine r_goto hX dX10_text_114 ?_
          exact At.to (ih8 (up σk 1 (149 + (104 * ((aX A).length)) + 3 + k) (nI (C.getD k 0))) (fun j hj => (up_n (by omega)).trans (hA j hj)) ((up_n (by omega)).trans hk0) ((up_n (by omega)).trans hk1) ((up_n (by omega)).trans hk2) (fun i hi => if e : i = k then (by rw [e, up_s]) else (by rw [up_n (by omega)]; exact hkc i (by omega))) ((up_n (by omega)).trans h31) (fun i hi => (up_n (by omega)).trans (h10 i hi)) ((up_n (by omega)).trans h05) (Ex.up hEk rfl)) rfl rfl rfl
      exact At.to (P6 0 (Nat.zero_le _) (up (up (up (up σ1 0 5 (nI 0)) 1 (149 + (104 * ((aX A).length)) + 0) (nI key)) 1 (149 + (104 * ((aX A).length)) + 1) (nI n)) 1 (149 + (104 * ((aX A).length)) + 2) (nI C.length)) (fun j hj => by rw [up_n (by omega), up_n (by omega), up_n (by omega), up_n (by omega)]) ((up_n (by omega)).trans ((up_n (by omega)).trans up_s)) ((up_n (by omega)).trans up_s) up_s (fun i hi => absurd hi (Nat.not_lt_zero i)) ((up_n (by omega)).trans ((up_n (by omega)).trans ((up_n (by omega)).trans ((up_n (by omega)).trans hq.2.2.1)))) (fun i hi => (up_n (by omega)).trans ((up_n (by omega)).trans ((up_n (by omega)).trans ((up_n (by omega)).trans (hq.2.2.2.2 i hi))))) ((up_n (by omega)).trans ((up_n (by omega)).trans ((up_n (by omega)).trans up_s))) (Ex.up (Ex.up (Ex.up (Ex.up (pY_pZ hx) rfl) rfl) rfl) rfl)) rfl rfl rfl
    · skip
      refine r_ldc hX dX10_text_37 ko_X10_73 ?_
      exact r_ireturn hX hQ dX10_text_39 ⟨Nat.le_of_ble_eq_true rfl, Nat.le_of_ble_eq_true rfl⟩ (PI.mk (by rw [oText_n hr c5]; exact ⟨rfl, ⟨by rw [show (up σ1 0 5 (nI 0)) 1 = σ1 1 from funext fun j => up_n (by omega)]; exact hR1, up_s⟩, Ex.up (pY_pZ hx) rfl⟩))
