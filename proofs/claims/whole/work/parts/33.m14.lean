set_option maxHeartbeats 4000000 in
set_option maxRecDepth 100000 in
theorem c_X10_isSignHere {l : Launch} {D : Ds} {L : La} (hM : MAt L) (σ : Me) (P : Tp) (key o nt : Nat) (q : Lx) (C : List Nat) (n : Nat) (hps : PS σ P key o nt q C n) (lok : Lok P q) (hkey : key ≤ 2) : Ct l yX10_isSignHere cX10_isSignHere 1 (some .boolean) { frames := 0, cells := 0, slots := 0, locals := 0 } D L σ [.ref (L.1 0)] (PF L σ (bI (nmB P key q))) := by
  refine Ct.of (by decide) (Nat.le_of_ble_eq_true rfl) ?_
  intro X hl hD hnl hX0 hQ
  have hX : Ok X cX10_isSignHere RX10 "isSignHere" { frames := 0, cells := 0, slots := 0, locals := 0 } (some .boolean) := hX0
  have hlx := lex_le (fun k hk => (hps.1.2.2 k hk).2) lok
  have hP96 := hps.1.2.1
  show At X L σ 0 0 [(0, .ref (L.1 0))] 0 []
  refine r_aload_n hX dX10_isSignHere_0 rfl ?_
  refine r_getIV hX dX10_isSignHere_1 fl_X10_261 (hM.1 0 (9, 0) rfl) rfl (nI (mkN q)) hps.2.1.2.2.1 ?_
  refine r_iconst hX (nI 1) dX10_isSignHere_4 rfl ?_
  refine r_icmpN_ne hX dX10_isSignHere_5 (by omega) (by decide) (fun c1 => ?_) (fun c1 => ?_)
  · skip
    refine r_iconst hX (nI 0) dX10_isSignHere_16 rfl ?_
    exact r_zreturn hX hQ dX10_isSignHere_17 ⟨Nat.le_of_ble_eq_true rfl, Nat.le_of_ble_eq_true rfl⟩ rfl (PF.mk (bI_f (by unfold nmB; rw [decide_eq_false c1]; rfl)).symm)
  · skip
    refine r_aload_n hX dX10_isSignHere_8 rfl ?_
    refine r_getIV hX dX10_isSignHere_9 fl_X10_249 (hM.1 0 (9, 0) rfl) rfl (nI (szN q)) hps.2.1.2.2.2.1 ?_
    refine r_iconst hX (nI 1) dX10_isSignHere_12 rfl ?_
    refine r_icmpN_eq hX dX10_isSignHere_13 (by omega) (by decide) (fun c2 => ?_) (fun c2 => ?_)
    · skip
      refine r_aload_n hX dX10_isSignHere_18 rfl ?_
      refine r_getIV hX dX10_isSignHere_19 fl_X10_252 (hM.1 0 (9, 0) rfl) rfl (nI (vlN P q)) hps.2.1.2.2.2.2.1 ?_
      have hk1 := mk1 c1
      have hrg := let_rng lok hk1
      obtain ⟨v, hv⟩ : ∃ z, z = P.2 q.1 := ⟨_, rfl⟩
      rw [← hv] at hrg
      rw [show vlN P q = v from by rw [hv]; unfold vlN; rw [if_pos hk1]]
      by_cases e3 : v = 98
      · skip
        subst e3
        refine r_lookN (v := 98) hX 80 dX10_isSignHere_22 (by decide) (by decide) 58 rfl (by decide) ?_
        refine r_aload_n hX dX10_isSignHere_80 rfl ?_
        refine r_getIV hX dX10_isSignHere_81 fl_X10_282 (hM.1 0 (9, 0) rfl) rfl (nI key) hps.2.2.2.2.2.1 ?_
        refine r_iconst hX (nI 2) dX10_isSignHere_84 rfl ?_
        refine r_icmpN_eq hX dX10_isSignHere_85 (by omega) (by decide) (fun c4 => ?_) (fun c4 => ?_)
        · skip
          refine r_iconst hX (nI 0) dX10_isSignHere_92 rfl ?_
          exact r_zreturn hX hQ dX10_isSignHere_93 ⟨Nat.le_of_ble_eq_true rfl, Nat.le_of_ble_eq_true rfl⟩ rfl (PF.mk (by unfold nmB; rw [decide_eq_true c1, decide_eq_true c2, ← hv]; rcases (show key = 0 ∨ key = 1 ∨ key = 2 by omega) with rfl | rfl | rfl <;> first | rfl | omega))
        · skip
          refine r_iconst hX (nI 1) dX10_isSignHere_88 rfl ?_
          refine r_goto hX dX10_isSignHere_89 ?_
          exact r_zreturn hX hQ dX10_isSignHere_93 ⟨Nat.le_of_ble_eq_true rfl, Nat.le_of_ble_eq_true rfl⟩ rfl (PF.mk (by unfold nmB; rw [decide_eq_true c1, decide_eq_true c2, ← hv]; rcases (show key = 0 ∨ key = 1 ∨ key = 2 by omega) with rfl | rfl | rfl <;> first | rfl | omega))
      by_cases e5 : v = 99
      · skip
        subst e5
        refine r_lookN (v := 99) hX 94 dX10_isSignHere_22 (by decide) (by decide) 72 rfl (by decide) ?_
        refine r_aload_n hX dX10_isSignHere_94 rfl ?_
        refine r_getIV hX dX10_isSignHere_95 fl_X10_282 (hM.1 0 (9, 0) rfl) rfl (nI key) hps.2.2.2.2.2.1 ?_
        refine r_ifN_eq hX dX10_isSignHere_98 (by omega) (fun c6 => ?_) (fun c6 => ?_)
        · skip
          refine r_iconst hX (nI 0) dX10_isSignHere_105 rfl ?_
          exact r_zreturn hX hQ dX10_isSignHere_106 ⟨Nat.le_of_ble_eq_true rfl, Nat.le_of_ble_eq_true rfl⟩ rfl (PF.mk (by unfold nmB; rw [decide_eq_true c1, decide_eq_true c2, ← hv]; rcases (show key = 0 ∨ key = 1 ∨ key = 2 by omega) with rfl | rfl | rfl <;> first | rfl | omega))
        · skip
          refine r_iconst hX (nI 1) dX10_isSignHere_101 rfl ?_
          refine r_goto hX dX10_isSignHere_102 ?_
          exact r_zreturn hX hQ dX10_isSignHere_106 ⟨Nat.le_of_ble_eq_true rfl, Nat.le_of_ble_eq_true rfl⟩ rfl (PF.mk (by unfold nmB; rw [decide_eq_true c1, decide_eq_true c2, ← hv]; rcases (show key = 0 ∨ key = 1 ∨ key = 2 by omega) with rfl | rfl | rfl <;> first | rfl | omega))
      by_cases e7 : v = 104
      · skip
        subst e7
        refine r_lookN (v := 104) hX 80 dX10_isSignHere_22 (by decide) (by decide) 58 rfl (by decide) ?_
        refine r_aload_n hX dX10_isSignHere_80 rfl ?_
        refine r_getIV hX dX10_isSignHere_81 fl_X10_282 (hM.1 0 (9, 0) rfl) rfl (nI key) hps.2.2.2.2.2.1 ?_
        refine r_iconst hX (nI 2) dX10_isSignHere_84 rfl ?_
        refine r_icmpN_eq hX dX10_isSignHere_85 (by omega) (by decide) (fun c8 => ?_) (fun c8 => ?_)
        · skip
          refine r_iconst hX (nI 0) dX10_isSignHere_92 rfl ?_
          exact r_zreturn hX hQ dX10_isSignHere_93 ⟨Nat.le_of_ble_eq_true rfl, Nat.le_of_ble_eq_true rfl⟩ rfl (PF.mk (by unfold nmB; rw [decide_eq_true c1, decide_eq_true c2, ← hv]; rcases (show key = 0 ∨ key = 1 ∨ key = 2 by omega) with rfl | rfl | rfl <;> first | rfl | omega))
        · skip
          refine r_iconst hX (nI 1) dX10_isSignHere_88 rfl ?_
          refine r_goto hX dX10_isSignHere_89 ?_
          exact r_zreturn hX hQ dX10_isSignHere_93 ⟨Nat.le_of_ble_eq_true rfl, Nat.le_of_ble_eq_true rfl⟩ rfl (PF.mk (by unfold nmB; rw [decide_eq_true c1, decide_eq_true c2, ← hv]; rcases (show key = 0 ∨ key = 1 ∨ key = 2 by omega) with rfl | rfl | rfl <;> first | rfl | omega))
      by_cases e9 : v = 109
      · skip
        subst e9
        refine r_lookN (v := 109) hX 107 dX10_isSignHere_22 (by decide) (by decide) 85 rfl (by decide) ?_
        refine r_aload_n hX dX10_isSignHere_107 rfl ?_
        refine r_getIV hX dX10_isSignHere_108 fl_X10_282 (hM.1 0 (9, 0) rfl) rfl (nI key) hps.2.2.2.2.2.1 ?_
        refine r_iconst hX (nI 2) dX10_isSignHere_111 rfl ?_
        refine r_icmpN_ne hX dX10_isSignHere_112 (by omega) (by decide) (fun c10 => ?_) (fun c10 => ?_)
        · skip
          refine r_iconst hX (nI 0) dX10_isSignHere_119 rfl ?_
          exact r_zreturn hX hQ dX10_isSignHere_120 ⟨Nat.le_of_ble_eq_true rfl, Nat.le_of_ble_eq_true rfl⟩ rfl (PF.mk (by unfold nmB; rw [decide_eq_true c1, decide_eq_true c2, ← hv]; rcases (show key = 0 ∨ key = 1 ∨ key = 2 by omega) with rfl | rfl | rfl <;> first | rfl | omega))
        · skip
          refine r_iconst hX (nI 1) dX10_isSignHere_115 rfl ?_
          refine r_goto hX dX10_isSignHere_116 ?_
          exact r_zreturn hX hQ dX10_isSignHere_120 ⟨Nat.le_of_ble_eq_true rfl, Nat.le_of_ble_eq_true rfl⟩ rfl (PF.mk (by unfold nmB; rw [decide_eq_true c1, decide_eq_true c2, ← hv]; rcases (show key = 0 ∨ key = 1 ∨ key = 2 by omega) with rfl | rfl | rfl <;> first | rfl | omega))
      by_cases e11 : v = 115
      · skip
        subst e11
        refine r_lookN (v := 115) hX 80 dX10_isSignHere_22 (by decide) (by decide) 58 rfl (by decide) ?_
        refine r_aload_n hX dX10_isSignHere_80 rfl ?_
        refine r_getIV hX dX10_isSignHere_81 fl_X10_282 (hM.1 0 (9, 0) rfl) rfl (nI key) hps.2.2.2.2.2.1 ?_
        refine r_iconst hX (nI 2) dX10_isSignHere_84 rfl ?_
        refine r_icmpN_eq hX dX10_isSignHere_85 (by omega) (by decide) (fun c12 => ?_) (fun c12 => ?_)
        · skip
          refine r_iconst hX (nI 0) dX10_isSignHere_92 rfl ?_
          exact r_zreturn hX hQ dX10_isSignHere_93 ⟨Nat.le_of_ble_eq_true rfl, Nat.le_of_ble_eq_true rfl⟩ rfl (PF.mk (by unfold nmB; rw [decide_eq_true c1, decide_eq_true c2, ← hv]; rcases (show key = 0 ∨ key = 1 ∨ key = 2 by omega) with rfl | rfl | rfl <;> first | rfl | omega))
        · skip
          refine r_iconst hX (nI 1) dX10_isSignHere_88 rfl ?_
          refine r_goto hX dX10_isSignHere_89 ?_
          exact r_zreturn hX hQ dX10_isSignHere_93 ⟨Nat.le_of_ble_eq_true rfl, Nat.le_of_ble_eq_true rfl⟩ rfl (PF.mk (by unfold nmB; rw [decide_eq_true c1, decide_eq_true c2, ← hv]; rcases (show key = 0 ∨ key = 1 ∨ key = 2 by omega) with rfl | rfl | rfl <;> first | rfl | omega))
      by_cases e13 : v = 119
      · skip
        subst e13
        refine r_lookN (v := 119) hX 107 dX10_isSignHere_22 (by decide) (by decide) 85 rfl (by decide) ?_
        refine r_aload_n hX dX10_isSignHere_107 rfl ?_
        refine r_getIV hX dX10_isSignHere_108 fl_X10_282 (hM.1 0 (9, 0) rfl) rfl (nI key) hps.2.2.2.2.2.1 ?_
        refine r_iconst hX (nI 2) dX10_isSignHere_111 rfl ?_
        refine r_icmpN_ne hX dX10_isSignHere_112 (by omega) (by decide) (fun c14 => ?_) (fun c14 => ?_)
        · skip
          refine r_iconst hX (nI 0) dX10_isSignHere_119 rfl ?_
          exact r_zreturn hX hQ dX10_isSignHere_120 ⟨Nat.le_of_ble_eq_true rfl, Nat.le_of_ble_eq_true rfl⟩ rfl (PF.mk (by unfold nmB; rw [decide_eq_true c1, decide_eq_true c2, ← hv]; rcases (show key = 0 ∨ key = 1 ∨ key = 2 by omega) with rfl | rfl | rfl <;> first | rfl | omega))
        · skip
          refine r_iconst hX (nI 1) dX10_isSignHere_115 rfl ?_
          refine r_goto hX dX10_isSignHere_116 ?_
          exact r_zreturn hX hQ dX10_isSignHere_120 ⟨Nat.le_of_ble_eq_true rfl, Nat.le_of_ble_eq_true rfl⟩ rfl (PF.mk (by unfold nmB; rw [decide_eq_true c1, decide_eq_true c2, ← hv]; rcases (show key = 0 ∨ key = 1 ∨ key = 2 by omega) with rfl | rfl | rfl <;> first | rfl | omega))
      refine r_lookup hX 121 dX10_isSignHere_22 (by decide) 99 (by rw [nI_toInt (by omega)]; simp [Op.lookupswitch.offset]; omega) (by decide) ?_
      refine r_iconst hX (nI 0) dX10_isSignHere_121 rfl ?_
      exact r_zreturn hX hQ dX10_isSignHere_122 ⟨Nat.le_of_ble_eq_true rfl, Nat.le_of_ble_eq_true rfl⟩ rfl (PF.mk (bI_f (by unfold nmB; rw [decide_eq_true c1, decide_eq_true c2, ← hv]; rw [ltr_no hrg.1 e3 e5 e7 e9 e11 e13]; rfl)).symm)
    · skip
      refine r_iconst hX (nI 0) dX10_isSignHere_16 rfl ?_
      exact r_zreturn hX hQ dX10_isSignHere_17 ⟨Nat.le_of_ble_eq_true rfl, Nat.le_of_ble_eq_true rfl⟩ rfl (PF.mk (bI_f (by unfold nmB; rw [decide_eq_false (p := szN q = 1) c2, Bool.and_false]; rfl)).symm)
