set_option maxHeartbeats 4000000 in
set_option maxRecDepth 100000 in
theorem c_X8_become {l : Launch} {D : Ds} {L : La}  (b c : Nat) (hC : RAt L b) (hCc : RAt L c) (hbc : b + 20 ≤ c ∨ c + 20 ≤ b) (σ : Me) (B : Al) (hW : RW σ c B) (hV : Va B) : Ct l yX8_become cX8_become 2 none { frames := 1, cells := 0, slots := 0, locals := 31 } D L σ [.ref (L.1 (b + 4)), .ref (L.1 (c + 4))] (PV L (fun σ2 => σ2 = cpW σ b c (aW B))) := by
  refine Ct.of (by decide) (Nat.le_of_ble_eq_true rfl) ?_
  intro X hl hD hnl hX0 hQ
  have hX : Ok X cX8_become RX8 "become" { frames := 1, cells := 0, slots := 0, locals := 31 } none := hX0
  have hW24 := hV.2.2.1
  show At X L σ 0 0 [(0, .ref (L.1 (b + 4))), (1, .ref (L.1 (c + 4)))] 0 []
  refine r_aload_n hX dX8_become_0 rfl ?_
  refine r_aload_n hX dX8_become_1 rfl ?_
  refine r_getIV hX dX8_become_2 fl_X8_9 (hCc.1 4 (7, 0) rfl) rfl (nI (aW B)) hW.1 ?_
  refine r_putI hX dX8_become_5 fl_X8_9 (hC.1 4 (7, 0) rfl) rfl rfl rfl rfl ?_
  refine r_aload_n hX dX8_become_8 rfl ?_
  refine r_getR hX dX8_become_9 fl_X8_15 (hCc.1 4 (7, 0) rfl) rfl (hCc.2.1 4 1 9 rfl) ?_
  refine r_iconst hX (nI 0) dX8_become_12 rfl ?_
  refine r_aload_n hX dX8_become_13 rfl ?_
  refine r_getR hX dX8_become_14 fl_X8_15 (hC.1 4 (7, 0) rfl) rfl (hC.2.1 4 1 9 rfl) ?_
  refine r_iconst hX (nI 0) dX8_become_17 rfl ?_
  refine r_aload_n hX dX8_become_18 rfl ?_
  refine r_getIV hX dX8_become_19 fl_X8_9 (hC.1 4 (7, 0) rfl) rfl (nI (aW B)) up_s ?_
  refine r_acopy hX dX8_become_22 (inT_4 (List.mem_of_getElem? (i := 231) rfl) rfl) (hCc.1 9 (10, 24) rfl) (hC.1 9 (10, 24) rfl) (by omega) (by omega) (by decide) (by decide) ⟨Nat.le_of_ble_eq_true rfl, Nat.le_of_ble_eq_true rfl⟩ (Nat.le_of_ble_eq_true rfl) ?_
  refine r_aload_n hX dX8_become_25 rfl ?_
  refine r_getR hX dX8_become_26 fl_X8_19 (hCc.1 4 (7, 0) rfl) rfl (hCc.2.1 4 2 10 rfl) ?_
  refine r_iconst hX (nI 0) dX8_become_29 rfl ?_
  refine r_aload_n hX dX8_become_30 rfl ?_
  refine r_getR hX dX8_become_31 fl_X8_19 (hC.1 4 (7, 0) rfl) rfl (hC.2.1 4 2 10 rfl) ?_
  refine r_iconst hX (nI 0) dX8_become_34 rfl ?_
  refine r_aload_n hX dX8_become_35 rfl ?_
  refine r_getIV hX dX8_become_36 fl_X8_9 (hC.1 4 (7, 0) rfl) rfl (nI (aW B)) (by rw [cpM_o (by omega), up_s]) ?_
  refine r_acopy hX dX8_become_39 (inT_4 (List.mem_of_getElem? (i := 231) rfl) rfl) (hCc.1 10 (10, 24) rfl) (hC.1 10 (10, 24) rfl) (by omega) (by omega) (by decide) (by decide) ⟨Nat.le_of_ble_eq_true rfl, Nat.le_of_ble_eq_true rfl⟩ (Nat.le_of_ble_eq_true rfl) ?_
  refine r_aload_n hX dX8_become_42 rfl ?_
  refine r_getR hX dX8_become_43 fl_X8_22 (hCc.1 4 (7, 0) rfl) rfl (hCc.2.1 4 3 11 rfl) ?_
  refine r_iconst hX (nI 0) dX8_become_46 rfl ?_
  refine r_aload_n hX dX8_become_47 rfl ?_
  refine r_getR hX dX8_become_48 fl_X8_22 (hC.1 4 (7, 0) rfl) rfl (hC.2.1 4 3 11 rfl) ?_
  refine r_iconst hX (nI 0) dX8_become_51 rfl ?_
  refine r_aload_n hX dX8_become_52 rfl ?_
  refine r_getIV hX dX8_become_53 fl_X8_9 (hC.1 4 (7, 0) rfl) rfl (nI (aW B)) (by rw [cpM_o (by omega), cpM_o (by omega), up_s]) ?_
  refine r_acopy hX dX8_become_56 (inT_4 (List.mem_of_getElem? (i := 231) rfl) rfl) (hCc.1 11 (10, 24) rfl) (hC.1 11 (10, 24) rfl) (by omega) (by omega) (by decide) (by decide) ⟨Nat.le_of_ble_eq_true rfl, Nat.le_of_ble_eq_true rfl⟩ (Nat.le_of_ble_eq_true rfl) ?_
  refine r_aload_n hX dX8_become_59 rfl ?_
  refine r_getR hX dX8_become_60 fl_X8_25 (hCc.1 4 (7, 0) rfl) rfl (hCc.2.1 4 4 12 rfl) ?_
  refine r_iconst hX (nI 0) dX8_become_63 rfl ?_
  refine r_aload_n hX dX8_become_64 rfl ?_
  refine r_getR hX dX8_become_65 fl_X8_25 (hC.1 4 (7, 0) rfl) rfl (hC.2.1 4 4 12 rfl) ?_
  refine r_iconst hX (nI 0) dX8_become_68 rfl ?_
  refine r_aload_n hX dX8_become_69 rfl ?_
  refine r_getIV hX dX8_become_70 fl_X8_9 (hC.1 4 (7, 0) rfl) rfl (nI (aW B)) (by rw [cpM_o (by omega), cpM_o (by omega), cpM_o (by omega), up_s]) ?_
  refine r_acopy hX dX8_become_73 (inT_4 (List.mem_of_getElem? (i := 231) rfl) rfl) (hCc.1 12 (10, 24) rfl) (hC.1 12 (10, 24) rfl) (by omega) (by omega) (by decide) (by decide) ⟨Nat.le_of_ble_eq_true rfl, Nat.le_of_ble_eq_true rfl⟩ (Nat.le_of_ble_eq_true rfl) ?_
  refine r_aload_n hX dX8_become_76 rfl ?_
  refine r_getR hX dX8_become_77 fl_X8_28 (hCc.1 4 (7, 0) rfl) rfl (hCc.2.1 4 5 13 rfl) ?_
  refine r_iconst hX (nI 0) dX8_become_80 rfl ?_
  refine r_aload_n hX dX8_become_81 rfl ?_
  refine r_getR hX dX8_become_82 fl_X8_28 (hC.1 4 (7, 0) rfl) rfl (hC.2.1 4 5 13 rfl) ?_
  refine r_iconst hX (nI 0) dX8_become_85 rfl ?_
  refine r_aload_n hX dX8_become_86 rfl ?_
  refine r_getIV hX dX8_become_87 fl_X8_9 (hC.1 4 (7, 0) rfl) rfl (nI (aW B)) (by rw [cpM_o (by omega), cpM_o (by omega), cpM_o (by omega), cpM_o (by omega), up_s]) ?_
  refine r_acopy hX dX8_become_90 (inT_4 (List.mem_of_getElem? (i := 231) rfl) rfl) (hCc.1 13 (10, 24) rfl) (hC.1 13 (10, 24) rfl) (by omega) (by omega) (by decide) (by decide) ⟨Nat.le_of_ble_eq_true rfl, Nat.le_of_ble_eq_true rfl⟩ (Nat.le_of_ble_eq_true rfl) ?_
  exact r_return hX hQ dX8_become_93 ⟨Nat.le_of_ble_eq_true rfl, Nat.le_of_ble_eq_true rfl⟩ (PV.mk rfl)

set_option maxHeartbeats 4000000 in
set_option maxRecDepth 100000 in
theorem c_X3_become {l : Launch} {D : Ds} {L : La}  (b c : Nat) (hC : RAt L b) (hCc : RAt L c) (hbc : b + 20 ≤ c ∨ c + 20 ≤ b) (σ : Me) (B : Al) (h0 : R0 σ c B) (hW : RW σ c B) (hTx : RX' L σ c B) (hV : Va B) (hLT : LT L c) : Ct l yX3_become cX3_become 3 none { frames := 2, cells := 0, slots := 0, locals := 52 } D L σ [.ref (L.1 (b + 0)), .ref (L.1 (c + 0))] (PT L (fun T σ2 => RC (L.1, L.2.1, T) σ2 b B ∧ (∀ i, i < 14 → T (b + 5) i = L.2.2 (c + 5) i) ∧ (∀ d j, d ≠ b + 5 ∨ 14 ≤ j → T d j = L.2.2 d j) ∧ ∀ d i, d < b ∨ b + 13 < d → σ2 d i = σ d i)) := by
  refine Ct.of (by decide) (Nat.le_of_ble_eq_true rfl) ?_
  intro X hl hD hnl hX0 hQ
  have hX : Ok X cX3_become RX3 "become" { frames := 2, cells := 0, slots := 0, locals := 52 } none := hX0
  have hN2 : 2 < xn X := by rw [hnl]; decide
  have hbb := hC.2.2
  have hcc := hCc.2.2
  have hX14 := hV.2.2.2.1
  show At X L σ 0 0 [(0, .ref (L.1 (b + 0))), (1, .ref (L.1 (c + 0)))] 0 []
  refine r_aload_n hX dX3_become_0 rfl ?_
  refine r_aload_n hX dX3_become_1 rfl ?_
  refine r_getIV hX dX3_become_2 fl_X3_9 (hCc.1 0 (2, 0) rfl) rfl (nI (aT B)) h0.1 ?_
  refine r_putI hX dX3_become_5 fl_X3_9 (hC.1 0 (2, 0) rfl) rfl rfl rfl rfl ?_
  refine r_aload_n hX dX3_become_8 rfl ?_
  refine r_getR hX dX3_become_9 fl_X3_15 (hCc.1 0 (2, 0) rfl) rfl (hCc.2.1 0 1 1 rfl) ?_
  refine r_iconst hX (nI 0) dX3_become_12 rfl ?_
  refine r_aload_n hX dX3_become_13 rfl ?_
  refine r_getR hX dX3_become_14 fl_X3_15 (hC.1 0 (2, 0) rfl) rfl (hC.2.1 0 1 1 rfl) ?_
  refine r_iconst hX (nI 0) dX3_become_17 rfl ?_
  refine r_bipush hX (nI 6) dX3_become_18 rfl ?_
  refine r_acopy hX dX3_become_20 (inT_4 (List.mem_of_getElem? (i := 226) rfl) rfl) (hCc.1 1 (10, 6) rfl) (hC.1 1 (10, 6) rfl) (by omega) (by omega) (by decide) (by decide) ⟨Nat.le_of_ble_eq_true rfl, Nat.le_of_ble_eq_true rfl⟩ (Nat.le_of_ble_eq_true rfl) ?_
  refine r_aload_n hX dX3_become_23 rfl ?_
  refine r_getR hX dX3_become_24 fl_X3_19 (hCc.1 0 (2, 0) rfl) rfl (hCc.2.1 0 2 2 rfl) ?_
  refine r_iconst hX (nI 0) dX3_become_27 rfl ?_
  refine r_aload_n hX dX3_become_28 rfl ?_
  refine r_getR hX dX3_become_29 fl_X3_19 (hC.1 0 (2, 0) rfl) rfl (hC.2.1 0 2 2 rfl) ?_
  refine r_iconst hX (nI 0) dX3_become_32 rfl ?_
  refine r_bipush hX (nI 6) dX3_become_33 rfl ?_
  refine r_acopy hX dX3_become_35 (inT_4 (List.mem_of_getElem? (i := 226) rfl) rfl) (hCc.1 2 (10, 6) rfl) (hC.1 2 (10, 6) rfl) (by omega) (by omega) (by decide) (by decide) ⟨Nat.le_of_ble_eq_true rfl, Nat.le_of_ble_eq_true rfl⟩ (Nat.le_of_ble_eq_true rfl) ?_
  refine r_aload_n hX dX3_become_38 rfl ?_
  refine r_aload_n hX dX3_become_39 rfl ?_
  refine r_getIV hX dX3_become_40 fl_X3_22 (hCc.1 0 (2, 0) rfl) rfl (nI (aN B)) (by rw [cpM_o (by omega), cpM_o (by omega), up_n (by omega)]; exact h0.2.1) ?_
  refine r_putI hX dX3_become_43 fl_X3_22 (hC.1 0 (2, 0) rfl) rfl rfl rfl rfl ?_
  refine r_aload_n hX dX3_become_46 rfl ?_
  refine r_getR hX dX3_become_47 fl_X3_25 (hCc.1 0 (2, 0) rfl) rfl (hCc.2.1 0 4 3 rfl) ?_
  refine r_iconst hX (nI 0) dX3_become_50 rfl ?_
  refine r_aload_n hX dX3_become_51 rfl ?_
  refine r_getR hX dX3_become_52 fl_X3_25 (hC.1 0 (2, 0) rfl) rfl (hC.2.1 0 4 3 rfl) ?_
  refine r_iconst hX (nI 0) dX3_become_55 rfl ?_
  refine r_bipush hX (nI 12) dX3_become_56 rfl ?_
  refine r_acopy hX dX3_become_58 (inT_4 (List.mem_of_getElem? (i := 226) rfl) rfl) (hCc.1 3 (10, 12) rfl) (hC.1 3 (10, 12) rfl) (by omega) (by omega) (by decide) (by decide) ⟨Nat.le_of_ble_eq_true rfl, Nat.le_of_ble_eq_true rfl⟩ (Nat.le_of_ble_eq_true rfl) ?_
  refine r_aload_n hX dX3_become_61 rfl ?_
  refine r_getR hX dX3_become_62 fl_X3_31 (hC.1 0 (2, 0) rfl) rfl (hC.2.1 0 5 4 rfl) ?_
  refine r_aload_n hX dX3_become_65 rfl ?_
  refine r_getR hX dX3_become_66 fl_X3_31 (hCc.1 0 (2, 0) rfl) rfl (hCc.2.1 0 5 4 rfl) ?_
  refine r_callVV (As := [.ref (L.1 (c + 4))]) (rest := []) hX (c_X8_become b c hC hCc hbc (cpM (up (cpM (cpM (up σ (b + 0) 0 (nI (aT B))) (c + 1) (b + 1) 0 0 6) (c + 2) (b + 2) 0 0 6) (b + 0) 3 (nI (aN B))) (c + 3) (b + 3) 0 0 12) B (RW.kept hW (fun c i hc => by rw [cpM_o (by omega), up_n (by omega), cpM_o (by omega), cpM_o (by omega), up_n (by omega)])) hV) dX3_become_69 cb_X3_62 (hC.1 4 (7, 0) rfl) rfl rfl ⟨Nat.le_of_ble_eq_true rfl, Nat.le_of_ble_eq_true rfl⟩ ⟨Nat.le_of_ble_eq_true rfl, Nat.le_of_ble_eq_true rfl⟩ (Nat.le_of_ble_eq_true rfl) (fun σ1 h2 => ?_)
  subst h2
  refine r_aload_n hX dX3_become_72 rfl ?_
  refine r_aload_n hX dX3_become_73 rfl ?_
  refine r_getIV hX dX3_become_74 fl_X3_35 (hCc.1 0 (2, 0) rfl) rfl (nI ((aX B).length)) (by rw [cpW_o (by omega) (by omega), cpM_o (by omega), up_n (by omega), cpM_o (by omega), cpM_o (by omega), up_n (by omega)]; exact h0.2.2.1) ?_
  refine r_putI hX dX3_become_77 fl_X3_35 (hC.1 0 (2, 0) rfl) rfl rfl rfl rfl ?_
  refine r_iconst hX (nI 0) dX3_become_80 rfl ?_
  refine r_istore_n hX [(0, .ref (L.1 (b + 0))), (1, .ref (L.1 (c + 0))), (2, .int (nI 0))] dX3_become_81 hN2 rfl ?_
  have P3 : ∀ k, k ≤ 14 → ∀ (T : Nat → Nat → Option Nat) (hT1 : ∀ i, i < k → T (b + 5) i = L.2.2 (c + 5) i) (hT2 : ∀ d j, d ≠ b + 5 ∨ k ≤ j → T d j = L.2.2 d j), At X (L.1, L.2.1, T) (up (cpW (cpM (up (cpM (cpM (up σ (b + 0) 0 (nI (aT B))) (c + 1) (b + 1) 0 0 6) (c + 2) (b + 2) 0 0 6) (b + 0) 3 (nI (aN B))) (c + 3) (b + 3) 0 0 12) b c (aW B)) (b + 0) 6 (nI ((aX B).length))) 0 0 [(0, .ref (L.1 (b + 0))), (1, .ref (L.1 (c + 0))), (2, .int (nI k))] 82 [] := by
    refine loopUp 14 ?_ ?_
    · skip
      intro T hT1 hT2
      refine r_iload_n hX dX3_become_82 rfl ?_
      refine r_bipush hX (nI 14) dX3_become_83 rfl ?_
      refine r_icmpN_ge hX dX3_become_85 (by decide) (by decide) (fun c4 => ?_) (fun c4 => absurd c4 (by decide))
      refine r_aload_n hX dX3_become_106 rfl ?_
      refine r_getR hX dX3_become_107 fl_X3_44 (hCc.1 0 (2, 0) rfl) rfl ((hT2 (c + 0) 8 (by omega)).trans (hCc.2.1 0 8 6 rfl)) ?_
      refine r_iconst hX (nI 0) dX3_become_110 rfl ?_
      refine r_aload_n hX dX3_become_111 rfl ?_
      refine r_getR hX dX3_become_112 fl_X3_44 (hC.1 0 (2, 0) rfl) rfl ((hT2 (b + 0) 8 (by omega)).trans (hC.2.1 0 8 6 rfl)) ?_
      refine r_iconst hX (nI 0) dX3_become_115 rfl ?_
      refine r_aload_n hX dX3_become_116 rfl ?_
      refine r_getR hX dX3_become_117 fl_X3_44 (hC.1 0 (2, 0) rfl) rfl ((hT2 (b + 0) 8 (by omega)).trans (hC.2.1 0 8 6 rfl)) ?_
      refine r_alen hX dX3_become_120 (hC.1 6 (10, 3) rfl) (by decide) (by decide) ?_
      refine r_acopy hX dX3_become_121 (inT_4 (List.mem_of_getElem? (i := 226) rfl) rfl) (hCc.1 6 (10, 3) rfl) (hC.1 6 (10, 3) rfl) (by omega) (by omega) (by decide) (by decide) ⟨Nat.le_of_ble_eq_true rfl, Nat.le_of_ble_eq_true rfl⟩ (Nat.le_of_ble_eq_true rfl) ?_
      refine r_aload_n hX dX3_become_124 rfl ?_
      refine r_aload_n hX dX3_become_125 rfl ?_
      refine r_getIV hX dX3_become_126 fl_X3_47 (hCc.1 0 (2, 0) rfl) rfl (aZ B) (by rw [cpM_o (by omega), up_n (by omega), cpW_o (by omega) (by omega), cpM_o (by omega), up_n (by omega), cpM_o (by omega), cpM_o (by omega), up_n (by omega)]; exact h0.2.2.2.1) ?_
      refine r_putI hX dX3_become_129 fl_X3_47 (hC.1 0 (2, 0) rfl) rfl rfl rfl rfl ?_
      exact r_return hX hQ dX3_become_132 ⟨Nat.le_of_ble_eq_true rfl, Nat.le_of_ble_eq_true rfl⟩ (PT.mk ⟨⟨(cpB_ok h0 hW hV hbc).1, (cpB_ok h0 hW hV hbc).2, RX'.become hTx hX14 (by omega) hT1 (fun d j hd => hT2 d j (Or.inl hd)) (fun d i hd => cpB_o hd)⟩, hT1, hT2, fun d i hd => cpB_o hd⟩)
    · skip
      intro k hk ih5 T hT1 hT2
      refine r_iload_n hX dX3_become_82 rfl ?_
      refine r_bipush hX (nI 14) dX3_become_83 rfl ?_
      refine r_icmpN_ge hX dX3_become_85 (by omega) (by decide) (fun c6 => absurd c6 (by omega)) (fun c6 => ?_)
      rcases htk : L.2.2 (c + 5) k with _ | t
      · skip
        refine r_aload_n hX dX3_become_88 rfl ?_
        refine r_getR hX dX3_become_89 fl_X3_40 (hC.1 0 (2, 0) rfl) rfl ((hT2 (b + 0) 7 (by omega)).trans (hC.2.1 0 7 5 rfl)) ?_
        refine r_iload_n hX dX3_become_92 rfl ?_
        refine r_aload_n hX dX3_become_93 rfl ?_
        refine r_getR hX dX3_become_94 fl_X3_40 (hCc.1 0 (2, 0) rfl) rfl ((hT2 (c + 0) 7 (by omega)).trans (hCc.2.1 0 7 5 rfl)) ?_
        refine r_iload_n hX dX3_become_97 rfl ?_
        refine r_aald hX dX3_become_98 (hCc.1 5 (15, 14) rfl) (by decide) (by decide) (by decide) (by omega) .null (by show va_rf ((T (c + 5) k).map L.1) = _; rw [hT2 _ _ (by omega), htk]; rfl) ?_
        refine r_aastN hX dX3_become_99 (hC.1 5 (15, 14) rfl) ⟨by decide, by decide, rfl⟩ ⟨(by omega), by decide⟩ ?_
        refine r_iincN (n := 1) hX [(0, .ref (L.1 (b + 0))), (1, .ref (L.1 (c + 0))), (2, .int (nI (k + 1)))] dX3_become_100 rfl hN2 rfl ?_
        refine r_goto hX dX3_become_103 ?_
        exact At.to (ih5 (ut (L.1, L.2.1, T) (b + 5) k none).2.2 (fun i hi => if e : i = k then (by rw [e, ut_s]; exact htk.symm) else (by rw [ut_n (Or.inr e)]; exact hT1 i (by omega))) (fun d j hd => (ut_n (by omega)).trans (hT2 d j (by omega)))) rfl rfl rfl
      · skip
        refine r_aload_n hX dX3_become_88 rfl ?_
        refine r_getR hX dX3_become_89 fl_X3_40 (hC.1 0 (2, 0) rfl) rfl ((hT2 (b + 0) 7 (by omega)).trans (hC.2.1 0 7 5 rfl)) ?_
        refine r_iload_n hX dX3_become_92 rfl ?_
        refine r_aload_n hX dX3_become_93 rfl ?_
        refine r_getR hX dX3_become_94 fl_X3_40 (hCc.1 0 (2, 0) rfl) rfl ((hT2 (c + 0) 7 (by omega)).trans (hCc.2.1 0 7 5 rfl)) ?_
        refine r_iload_n hX dX3_become_97 rfl ?_
        refine r_aald hX dX3_become_98 (hCc.1 5 (15, 14) rfl) (by decide) (by decide) (by decide) (by omega) (.ref (L.1 t)) (by show va_rf ((T (c + 5) k).map L.1) = _; rw [hT2 _ _ (by omega), htk]; rfl) ?_
        refine r_aast hX dX3_become_99 (hC.1 5 (15, 14) rfl) ⟨by decide, by decide⟩ ⟨(by omega), by decide⟩ (hLT k t hk htk) ⟨by decide, rfl⟩ ?_
        refine r_iincN (n := 1) hX [(0, .ref (L.1 (b + 0))), (1, .ref (L.1 (c + 0))), (2, .int (nI (k + 1)))] dX3_become_100 rfl hN2 rfl ?_
        refine r_goto hX dX3_become_103 ?_
        exact At.to (ih5 (ut (L.1, L.2.1, T) (b + 5) k (some t)).2.2 (fun i hi => if e : i = k then (by rw [e, ut_s]; exact htk.symm) else (by rw [ut_n (Or.inr e)]; exact hT1 i (by omega))) (fun d j hd => (ut_n (by omega)).trans (hT2 d j (by omega)))) rfl rfl rfl
  exact At.to (P3 0 (Nat.zero_le _) L.2.2 (fun i hi => absurd hi (Nat.not_lt_zero i)) (fun _ _ _ => rfl)) rfl rfl rfl
