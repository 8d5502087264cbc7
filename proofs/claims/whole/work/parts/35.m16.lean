set_option maxHeartbeats 4000000 in
set_option maxRecDepth 100000 in
theorem c_X10_piece {l : Launch} {D : Ds} {L : La} (hM : MAt L) (d : Nat) (P : Tp) (key o nt : Nat) (hkey : key ≤ 2) (ho : o ≤ 8) (hnt : nt ≤ 8) (hsubP : nt ≠ 8 → ∀ (σ : Me) (q : Lx) (C : List Nat) (n : Nat), PS σ P key o (nt + 1) q C n → Lok P q → C.length ≤ q.1 → Ct l yX10_piece cX10_piece 1 none { frames := d + 5, cells := 0, slots := 0, locals := 30 * (d) + 130 } D L σ [.ref (L.1 0)] (PV L (fun σ2 => PQ σ2 P key o (nt + 1) C n (prs P key d 5 o (nt + 1) q) ∧ Ex pY σ σ2))) (hsubE : o ≠ 8 → ∀ (σ : Me) (q : Lx) (C : List Nat) (n : Nat), PS σ P key (o + 1) nt q C n → Lok P q → C.length ≤ q.1 → Ct l yX10_either cX10_either 1 none { frames := d + 5, cells := 0, slots := 0, locals := 30 * (d) + 130 } D L σ [.ref (L.1 0)] (PV L (fun σ2 => PQ σ2 P key (o + 1) nt C n (prs P key d 0 (o + 1) nt q) ∧ Ex pY σ σ2))) (σ : Me) (q : Lx) (C : List Nat) (n : Nat) (hps : PS σ P key o nt q C n) (lok : Lok P q) (hCq : C.length ≤ q.1) : Ct l yX10_piece cX10_piece 1 none { frames := d + 1 + 5, cells := 0, slots := 0, locals := 30 * (d + 1) + 130 } D L σ [.ref (L.1 0)] (PV L (fun σ2 => PQ σ2 P key o nt C n (prs P key (d + 1) 5 o nt q) ∧ Ex pY σ σ2)) := by
  refine Ct.of (by decide) (Nat.le_of_ble_eq_true rfl) ?_
  intro X hl hD hnl hX0 hQ
  have hX : Ok X cX10_piece RX10 "piece" { frames := d + 1 + 5, cells := 0, slots := 0, locals := 30 * (d + 1) + 130 } none := hX0
  have hP96 := hps.1.2.1
  have := lok.2.1; have := lok.2.2.1
  have hlx := lex_le (fun k hk => (hps.1.2.2 k hk).2) lok
  show At X L σ 0 0 [(0, .ref (L.1 0))] 0 []
  refine r_aload_n hX dX10_piece_0 rfl ?_
  refine r_bipush hX (nI 33) dX10_piece_1 rfl ?_
  refine r_callVF (As := [.int (nI 33)]) (rest := []) hX (c_X10_isMark hM σ P key o nt q C n hps lok 33 (by decide)) dX10_piece_3 cb_X10_285 (hM.1 0 (9, 0) rfl) rfl rfl ⟨by show _ ≤ d + 1 + 5; omega, by show _ ≤ 30 * (d + 1) + 130; omega⟩ ⟨Nat.le_of_ble_eq_true rfl, Nat.le_of_ble_eq_true rfl⟩ (Nat.le_of_ble_eq_true rfl) ?_
  refine r_ifB_eq hX dX10_piece_6 (fun c1 => ?_) (fun c1 => ?_)
  · skip
    refine r_aload_n hX dX10_piece_61 rfl ?_
    refine r_bipush hX (nI 40) dX10_piece_62 rfl ?_
    refine r_callVF (As := [.int (nI 40)]) (rest := []) hX (c_X10_isMark hM σ P key o nt q C n hps lok 40 (by decide)) dX10_piece_64 cb_X10_285 (hM.1 0 (9, 0) rfl) rfl rfl ⟨by show _ ≤ d + 1 + 5; omega, by show _ ≤ 30 * (d + 1) + 130; omega⟩ ⟨Nat.le_of_ble_eq_true rfl, Nat.le_of_ble_eq_true rfl⟩ (Nat.le_of_ble_eq_true rfl) ?_
    refine r_ifB_eq hX dX10_piece_67 (fun c2 => ?_) (fun c2 => ?_)
    · skip
      refine r_aload_n hX dX10_piece_133 rfl ?_
      refine r_getIV hX dX10_piece_134 fl_X10_264 (hM.1 0 (9, 0) rfl) rfl (nI 0) hps.2.2.1 ?_
      refine r_ifN_ne hX dX10_piece_137 (by decide) (fun c3 => absurd c3 (by decide)) (fun c3 => ?_)
      refine r_aload_n hX dX10_piece_140 rfl ?_
      refine r_getIV hX dX10_piece_141 fl_X10_261 (hM.1 0 (9, 0) rfl) rfl (nI (mkN q)) hps.2.1.2.2.1 ?_
      refine r_iconst hX (nI 2) dX10_piece_144 rfl ?_
      refine r_icmpN_eq hX dX10_piece_145 (by omega) (by decide) (fun c4 => ?_) (fun c4 => ?_)
      · skip
        refine r_aload_n hX dX10_piece_155 rfl ?_
        refine r_aload_n hX dX10_piece_156 rfl ?_
        refine r_getIV hX dX10_piece_157 fl_X10_261 (hM.1 0 (9, 0) rfl) rfl (nI (mkN q)) hps.2.1.2.2.1 ?_
        refine r_iconst hX (nI 2) dX10_piece_160 rfl ?_
        refine r_icmpN_ne hX dX10_piece_161 (by omega) (by decide) (fun c5 => absurd c4 c5) (fun c5 => ?_)
        refine r_aload_n hX dX10_piece_164 rfl ?_
        refine r_getIV hX dX10_piece_165 fl_X10_252 (hM.1 0 (9, 0) rfl) rfl (nI (vlN P q)) hps.2.1.2.2.2.2.1 ?_
        refine r_goto hX dX10_piece_168 ?_
        refine r_callVV (As := [.int (nI (vlN P q))]) (rest := []) hX (c_X10_emit hM σ P key o nt q C n hps lok (vlN P q) (by (try simp only [List.length_append, List.length_cons, List.length_nil]); omega)) dX10_piece_182 cb_X10_300 (hM.1 0 (9, 0) rfl) rfl rfl ⟨by show _ ≤ d + 1 + 5; omega, by show _ ≤ 30 * (d + 1) + 130; omega⟩ ⟨Nat.le_of_ble_eq_true rfl, Nat.le_of_ble_eq_true rfl⟩ (Nat.le_of_ble_eq_true rfl) (fun σ6 h7 => ?_)
        obtain ⟨hp8, hx9⟩ := h7
        refine r_aload_n hX dX10_piece_185 rfl ?_
        refine r_dup hX dX10_piece_186 rfl ?_
        refine r_getIV hX dX10_piece_187 fl_X10_313 (hM.1 0 (9, 0) rfl) rfl (nI n) hp8.2.2.2.2.2.2.2.1 ?_
        refine r_iconst hX (nI 1) dX10_piece_190 rfl ?_
        refine r_iaddN hX dX10_piece_191 ?_
        refine r_putI hX dX10_piece_192 fl_X10_313 (hM.1 0 (9, 0) rfl) rfl rfl rfl rfl ?_
        have hp10 : PS (up σ6 0 32 (nI (n + 1))) P key o nt q (C ++ [vlN P q]) (n + 1) := PS.nmd hp8 _
        refine r_aload_n hX dX10_piece_195 rfl ?_
        refine r_callVV (As := []) (rest := []) hX (c_X10_next hM (up σ6 0 32 (nI (n + 1))) P (hp10).1 q.2.2.1 (wwB q) (hp10).2.1.1 (hp10).2.1.2.2.2.2.2 (lok).2.2.1) dX10_piece_196 cb_X10_294 (hM.1 0 (9, 0) rfl) rfl rfl ⟨by show _ ≤ d + 1 + 5; omega, by show _ ≤ 30 * (d + 1) + 130; omega⟩ ⟨Nat.le_of_ble_eq_true rfl, Nat.le_of_ble_eq_true rfl⟩ (Nat.le_of_ble_eq_true rfl) (fun σ11 h12 => ?_)
        obtain ⟨hl13, hx14⟩ := h12
        have hp15 : PS σ11 P key o nt (nxq P q) (C ++ [vlN P q]) (n + 1) := PS.nx hp10 hx14 hl13
        have hlok16 := (lok).nx
        refine r_goto hX dX10_piece_199 ?_
        exact r_return hX hQ dX10_piece_206 ⟨Nat.le_of_ble_eq_true rfl, Nat.le_of_ble_eq_true rfl⟩ (PV.mk ⟨by show PQ _ P key o nt C n (prs P key (d + 1) 5 o nt q); rw [prs_5]; unfold pce; rw [if_neg (by rw [c1]; decide), if_neg (by rw [c2]; decide), if_pos c4]; exact hp15, (Ex.tr (Ex.up (Ex.tr (Ex.rf σ) hx9) rfl) (pX_pY hx14))⟩)
      · skip
        refine r_aload_n hX dX10_piece_148 rfl ?_
        refine r_callVF (As := []) (rest := []) hX (c_X10_isSignHere hM σ P key o nt q C n hps lok hkey) dX10_piece_149 cb_X10_309 (hM.1 0 (9, 0) rfl) rfl rfl ⟨by show _ ≤ d + 1 + 5; omega, by show _ ≤ 30 * (d + 1) + 130; omega⟩ ⟨Nat.le_of_ble_eq_true rfl, Nat.le_of_ble_eq_true rfl⟩ (Nat.le_of_ble_eq_true rfl) ?_
        refine r_ifB_eq hX dX10_piece_152 (fun c17 => ?_) (fun c17 => ?_)
        · skip
          refine r_aload_n hX dX10_piece_202 rfl ?_
          refine r_callVV (As := []) (rest := []) hX (c_X10_fails hM σ P key o nt q C n hps lok) dX10_piece_203 cb_X10_291 (hM.1 0 (9, 0) rfl) rfl rfl ⟨by show _ ≤ d + 1 + 5; omega, by show _ ≤ 30 * (d + 1) + 130; omega⟩ ⟨Nat.le_of_ble_eq_true rfl, Nat.le_of_ble_eq_true rfl⟩ (Nat.le_of_ble_eq_true rfl) (fun σ18 h19 => ?_)
          obtain ⟨⟨h2620, h2721⟩, hx22⟩ := h19
          exact r_return hX hQ dX10_piece_206 ⟨Nat.le_of_ble_eq_true rfl, Nat.le_of_ble_eq_true rfl⟩ (PV.mk ⟨by show PQ _ P key o nt C n (prs P key (d + 1) 5 o nt q); rw [prs_5]; unfold pce; rw [if_neg (by rw [c1]; decide), if_neg (by rw [c2]; decide), if_neg c4, if_neg (by rw [c17]; decide)]; exact ⟨h2620, h2721⟩, (Ex.tr (Ex.rf σ) hx22)⟩)
        · skip
          have hnv := nm_vl lok c17
          refine r_aload_n hX dX10_piece_155 rfl ?_
          refine r_aload_n hX dX10_piece_156 rfl ?_
          refine r_getIV hX dX10_piece_157 fl_X10_261 (hM.1 0 (9, 0) rfl) rfl (nI (mkN q)) hps.2.1.2.2.1 ?_
          refine r_iconst hX (nI 2) dX10_piece_160 rfl ?_
          refine r_icmpN_ne hX dX10_piece_161 (by omega) (by decide) (fun c23 => ?_) (fun c23 => absurd c23 c4)
          refine r_sipush hX (nI 10000) dX10_piece_171 rfl ?_
          refine r_aload_n hX dX10_piece_174 rfl ?_
          refine r_getIV hX dX10_piece_175 fl_X10_252 (hM.1 0 (9, 0) rfl) rfl (nI (vlN P q)) hps.2.1.2.2.2.2.1 ?_
          refine r_iaddN hX dX10_piece_178 ?_
          refine r_bipush hX (nI 97) dX10_piece_179 rfl ?_
          refine r_isubN hX dX10_piece_181 (by omega) ?_
          refine r_callVV (As := [.int (nI (10000 + (vlN P q) - 97))]) (rest := []) hX (c_X10_emit hM σ P key o nt q C n hps lok (10000 + (vlN P q) - 97) (by (try simp only [List.length_append, List.length_cons, List.length_nil]); omega)) dX10_piece_182 cb_X10_300 (hM.1 0 (9, 0) rfl) rfl rfl ⟨by show _ ≤ d + 1 + 5; omega, by show _ ≤ 30 * (d + 1) + 130; omega⟩ ⟨Nat.le_of_ble_eq_true rfl, Nat.le_of_ble_eq_true rfl⟩ (Nat.le_of_ble_eq_true rfl) (fun σ24 h25 => ?_)
          obtain ⟨hp26, hx27⟩ := h25
          refine r_aload_n hX dX10_piece_185 rfl ?_
          refine r_dup hX dX10_piece_186 rfl ?_
          refine r_getIV hX dX10_piece_187 fl_X10_313 (hM.1 0 (9, 0) rfl) rfl (nI n) hp26.2.2.2.2.2.2.2.1 ?_
          refine r_iconst hX (nI 1) dX10_piece_190 rfl ?_
          refine r_iaddN hX dX10_piece_191 ?_
          refine r_putI hX dX10_piece_192 fl_X10_313 (hM.1 0 (9, 0) rfl) rfl rfl rfl rfl ?_
          have hp28 : PS (up σ24 0 32 (nI (n + 1))) P key o nt q (C ++ [10000 + (vlN P q) - 97]) (n + 1) := PS.nmd hp26 _
          refine r_aload_n hX dX10_piece_195 rfl ?_
          refine r_callVV (As := []) (rest := []) hX (c_X10_next hM (up σ24 0 32 (nI (n + 1))) P (hp28).1 q.2.2.1 (wwB q) (hp28).2.1.1 (hp28).2.1.2.2.2.2.2 (lok).2.2.1) dX10_piece_196 cb_X10_294 (hM.1 0 (9, 0) rfl) rfl rfl ⟨by show _ ≤ d + 1 + 5; omega, by show _ ≤ 30 * (d + 1) + 130; omega⟩ ⟨Nat.le_of_ble_eq_true rfl, Nat.le_of_ble_eq_true rfl⟩ (Nat.le_of_ble_eq_true rfl) (fun σ29 h30 => ?_)
          obtain ⟨hl31, hx32⟩ := h30
          have hp33 : PS σ29 P key o nt (nxq P q) (C ++ [10000 + (vlN P q) - 97]) (n + 1) := PS.nx hp28 hx32 hl31
          have hlok34 := (lok).nx
          refine r_goto hX dX10_piece_199 ?_
          exact r_return hX hQ dX10_piece_206 ⟨Nat.le_of_ble_eq_true rfl, Nat.le_of_ble_eq_true rfl⟩ (PV.mk ⟨by show PQ _ P key o nt C n (prs P key (d + 1) 5 o nt q); rw [prs_5]; unfold pce; rw [if_neg (by rw [c1]; decide), if_neg (by rw [c2]; decide), if_neg c4, if_pos c17]; show PS _ P key o nt (nxq P q) (C ++ [10000 + (P.2 q.1 - 97)]) (n + 1); exact PS.as hp33 (by rw [hnv.1, show 10000 + P.2 q.1 - 97 = 10000 + (P.2 q.1 - 97) by omega]) rfl, (Ex.tr (Ex.up (Ex.tr (Ex.rf σ) hx27) rfl) (pX_pY hx32))⟩)
    · skip
      refine r_aload_n hX dX10_piece_70 rfl ?_
      refine r_getIV hX dX10_piece_71 fl_X10_303 (hM.1 0 (9, 0) rfl) rfl (nI o) hps.2.2.2.1 ?_
      refine r_bipush hX (nI 8) dX10_piece_74 rfl ?_
      refine r_icmpN_ne hX dX10_piece_76 (by omega) (by decide) (fun c35 => ?_) (fun c35 => ?_)
      · skip
        refine r_aload_n hX dX10_piece_84 rfl ?_
        refine r_dup hX dX10_piece_85 rfl ?_
        refine r_getIV hX dX10_piece_86 fl_X10_303 (hM.1 0 (9, 0) rfl) rfl (nI o) hps.2.2.2.1 ?_
        refine r_iconst hX (nI 1) dX10_piece_89 rfl ?_
        refine r_iaddN hX dX10_piece_90 ?_
        refine r_putI hX dX10_piece_91 fl_X10_303 (hM.1 0 (9, 0) rfl) rfl rfl rfl rfl ?_
        have hp36 : PS (up σ 0 28 (nI (o + 1))) P key (o + 1) nt q C n := PS.opn hps _
        refine r_aload_n hX dX10_piece_94 rfl ?_
        refine r_callVV (As := []) (rest := []) hX (c_X10_next hM (up σ 0 28 (nI (o + 1))) P (hp36).1 q.2.2.1 (wwB q) (hp36).2.1.1 (hp36).2.1.2.2.2.2.2 (lok).2.2.1) dX10_piece_95 cb_X10_294 (hM.1 0 (9, 0) rfl) rfl rfl ⟨by show _ ≤ d + 1 + 5; omega, by show _ ≤ 30 * (d + 1) + 130; omega⟩ ⟨Nat.le_of_ble_eq_true rfl, Nat.le_of_ble_eq_true rfl⟩ (Nat.le_of_ble_eq_true rfl) (fun σ37 h38 => ?_)
        obtain ⟨hl39, hx40⟩ := h38
        have hp41 : PS σ37 P key (o + 1) nt (nxq P q) C n := PS.nx hp36 hx40 hl39
        have hlok42 := (lok).nx
        refine r_aload_n hX dX10_piece_98 rfl ?_
        refine r_callVV (As := []) (rest := []) hX (by rw [hl, hD]; exact hsubE c35 σ37 (nxq P q) C n hp41 hlok42.1 (by (try simp only [List.length_append, List.length_cons, List.length_nil]); omega)) dX10_piece_99 cb_X10_306 (hM.1 0 (9, 0) rfl) rfl rfl ⟨by show _ ≤ d + 1 + 5; omega, by show _ ≤ 30 * (d + 1) + 130; omega⟩ ⟨Nat.le_of_ble_eq_true rfl, Nat.le_of_ble_eq_true rfl⟩ (Nat.le_of_ble_eq_true rfl) (fun σ43 h44 => ?_)
        obtain ⟨hq45, hx46⟩ := h44
        have hok47 := prs_ok P key d 0 (o + 1) nt (nxq P q) hlok42.1
        rcases hr48 : prs P key d 0 (o + 1) nt (nxq P q) with f49 | ⟨q50, c51, n52⟩
        · skip
          rw [hr48] at hq45
          refine r_aload_n hX dX10_piece_102 rfl ?_
          refine r_bipush hX (nI 41) dX10_piece_103 rfl ?_
          refine r_callVF (As := [.int (nI 41)]) (rest := []) hX (c_X10_isMarkB hM σ43 hq45.1 (nI 41)) dX10_piece_105 cb_X10_285 (hM.1 0 (9, 0) rfl) rfl rfl ⟨by show _ ≤ d + 1 + 5; omega, by show _ ≤ 30 * (d + 1) + 130; omega⟩ ⟨Nat.le_of_ble_eq_true rfl, Nat.le_of_ble_eq_true rfl⟩ (Nat.le_of_ble_eq_true rfl) ?_
          refine r_ifN_ne hX dX10_piece_108 (by decide) (fun c53 => absurd c53 (by decide)) (fun c53 => ?_)
          refine r_aload_n hX dX10_piece_111 rfl ?_
          refine r_callVV (As := []) (rest := []) hX (c_X10_failsB hM σ43 hq45.1) dX10_piece_112 cb_X10_291 (hM.1 0 (9, 0) rfl) rfl rfl ⟨by show _ ≤ d + 1 + 5; omega, by show _ ≤ 30 * (d + 1) + 130; omega⟩ ⟨Nat.le_of_ble_eq_true rfl, Nat.le_of_ble_eq_true rfl⟩ (Nat.le_of_ble_eq_true rfl) (fun σ54 h55 => ?_)
          replace h55 := h55.symm
          subst h55
          exact r_return hX hQ dX10_piece_115 ⟨Nat.le_of_ble_eq_true rfl, Nat.le_of_ble_eq_true rfl⟩ (PV.mk ⟨by show PQ _ P key o nt C n (prs P key (d + 1) 5 o nt q); rw [prs_5]; unfold pce; rw [if_neg (by rw [c1]; decide), if_pos c2, if_neg c35, hr48]; exact ⟨hq45.1, hq45.2⟩, (Ex.tr (Ex.tr (Ex.up (Ex.rf σ) rfl) (pX_pY hx40)) hx46)⟩)
        · skip
          rw [hr48] at hq45 hok47
          have hp56 : PS σ43 P key (o + 1) nt q50 (C ++ c51) (n + n52) := hq45
          have hl57 : Lok P q50 ∧ (nxq P q).1 + c51.length ≤ q50.1 ∧ (nxq P q).1 < q50.1 := hok47
          have := hl57.1.2.1; have := hl57.1.2.2.1
          refine r_aload_n hX dX10_piece_102 rfl ?_
          refine r_bipush hX (nI 41) dX10_piece_103 rfl ?_
          refine r_callVF (As := [.int (nI 41)]) (rest := []) hX (c_X10_isMark hM σ43 P key (o + 1) nt q50 (C ++ c51) (n + n52) hp56 hl57.1 41 (by decide)) dX10_piece_105 cb_X10_285 (hM.1 0 (9, 0) rfl) rfl rfl ⟨by show _ ≤ d + 1 + 5; omega, by show _ ≤ 30 * (d + 1) + 130; omega⟩ ⟨Nat.le_of_ble_eq_true rfl, Nat.le_of_ble_eq_true rfl⟩ (Nat.le_of_ble_eq_true rfl) ?_
          refine r_ifB_ne hX dX10_piece_108 (fun c58 => ?_) (fun c58 => ?_)
          · skip
            refine r_aload_n hX dX10_piece_116 rfl ?_
            refine r_dup hX dX10_piece_117 rfl ?_
            refine r_getIV hX dX10_piece_118 fl_X10_303 (hM.1 0 (9, 0) rfl) rfl (nI (o + 1)) hp56.2.2.2.1 ?_
            refine r_iconst hX (nI 1) dX10_piece_121 rfl ?_
            refine r_isubN hX dX10_piece_122 (by omega) ?_
            refine r_putI hX dX10_piece_123 fl_X10_303 (hM.1 0 (9, 0) rfl) rfl rfl rfl rfl ?_
            have hp59 : PS (up σ43 0 28 (nI (o + 1 - 1))) P key o nt q50 (C ++ c51) (n + n52) := PS.opn hp56 _
            refine r_aload_n hX dX10_piece_126 rfl ?_
            refine r_callVV (As := []) (rest := []) hX (c_X10_next hM (up σ43 0 28 (nI (o + 1 - 1))) P (hp59).1 q50.2.2.1 (wwB q50) (hp59).2.1.1 (hp59).2.1.2.2.2.2.2 (hl57.1).2.2.1) dX10_piece_127 cb_X10_294 (hM.1 0 (9, 0) rfl) rfl rfl ⟨by show _ ≤ d + 1 + 5; omega, by show _ ≤ 30 * (d + 1) + 130; omega⟩ ⟨Nat.le_of_ble_eq_true rfl, Nat.le_of_ble_eq_true rfl⟩ (Nat.le_of_ble_eq_true rfl) (fun σ60 h61 => ?_)
            obtain ⟨hl62, hx63⟩ := h61
            have hp64 : PS σ60 P key o nt (nxq P q50) (C ++ c51) (n + n52) := PS.nx hp59 hx63 hl62
            have hlok65 := (hl57.1).nx
            refine r_goto hX dX10_piece_130 ?_
            exact r_return hX hQ dX10_piece_206 ⟨Nat.le_of_ble_eq_true rfl, Nat.le_of_ble_eq_true rfl⟩ (PV.mk ⟨by show PQ _ P key o nt C n (prs P key (d + 1) 5 o nt q); rw [prs_5]; unfold pce; rw [if_neg (by rw [c1]; decide), if_pos c2, if_neg c35, hr48]; show PQ _ P key o nt C n (if sgB P q50 41 = true then _ else _); rw [if_pos c58]; exact hp64, (Ex.tr (Ex.up (Ex.tr (Ex.tr (Ex.up (Ex.rf σ) rfl) (pX_pY hx40)) hx46) rfl) (pX_pY hx63))⟩)
          · skip
            refine r_aload_n hX dX10_piece_111 rfl ?_
            refine r_callVV (As := []) (rest := []) hX (c_X10_fails hM σ43 P key (o + 1) nt q50 (C ++ c51) (n + n52) hp56 hl57.1) dX10_piece_112 cb_X10_291 (hM.1 0 (9, 0) rfl) rfl rfl ⟨by show _ ≤ d + 1 + 5; omega, by show _ ≤ 30 * (d + 1) + 130; omega⟩ ⟨Nat.le_of_ble_eq_true rfl, Nat.le_of_ble_eq_true rfl⟩ (Nat.le_of_ble_eq_true rfl) (fun σ66 h67 => ?_)
            obtain ⟨⟨h2668, h2769⟩, hx70⟩ := h67
            exact r_return hX hQ dX10_piece_115 ⟨Nat.le_of_ble_eq_true rfl, Nat.le_of_ble_eq_true rfl⟩ (PV.mk ⟨by show PQ _ P key o nt C n (prs P key (d + 1) 5 o nt q); rw [prs_5]; unfold pce; rw [if_neg (by rw [c1]; decide), if_pos c2, if_neg c35, hr48]; show PQ _ P key o nt C n (if sgB P q50 41 = true then _ else _); rw [if_neg (by rw [c58]; decide)]; exact ⟨h2668, h2769⟩, (Ex.tr (Ex.tr (Ex.tr (Ex.up (Ex.rf σ) rfl) (pX_pY hx40)) hx46) hx70)⟩)
      · skip
        refine r_aload_n hX dX10_piece_79 rfl ?_
        refine r_callVV (As := []) (rest := []) hX (c_X10_fails hM σ P key o nt q C n hps lok) dX10_piece_80 cb_X10_291 (hM.1 0 (9, 0) rfl) rfl rfl ⟨by show _ ≤ d + 1 + 5; omega, by show _ ≤ 30 * (d + 1) + 130; omega⟩ ⟨Nat.le_of_ble_eq_true rfl, Nat.le_of_ble_eq_true rfl⟩ (Nat.le_of_ble_eq_true rfl) (fun σ71 h72 => ?_)
        obtain ⟨⟨h2673, h2774⟩, hx75⟩ := h72
        exact r_return hX hQ dX10_piece_83 ⟨Nat.le_of_ble_eq_true rfl, Nat.le_of_ble_eq_true rfl⟩ (PV.mk ⟨by show PQ _ P key o nt C n (prs P key (d + 1) 5 o nt q); rw [prs_5]; unfold pce; rw [if_neg (by rw [c1]; decide), if_pos c2, if_pos c35]; exact ⟨h2673, h2774⟩, (Ex.tr (Ex.rf σ) hx75)⟩)
  · skip
    refine r_aload_n hX dX10_piece_9 rfl ?_
    refine r_getIV hX dX10_piece_10 fl_X10_288 (hM.1 0 (9, 0) rfl) rfl (nI nt) hps.2.2.2.2.1 ?_
    refine r_bipush hX (nI 8) dX10_piece_13 rfl ?_
    refine r_icmpN_ne hX dX10_piece_15 (by omega) (by decide) (fun c76 => ?_) (fun c76 => ?_)
    · skip
      refine r_aload_n hX dX10_piece_23 rfl ?_
      refine r_dup hX dX10_piece_24 rfl ?_
      refine r_getIV hX dX10_piece_25 fl_X10_288 (hM.1 0 (9, 0) rfl) rfl (nI nt) hps.2.2.2.2.1 ?_
      refine r_iconst hX (nI 1) dX10_piece_28 rfl ?_
      refine r_iaddN hX dX10_piece_29 ?_
      refine r_putI hX dX10_piece_30 fl_X10_288 (hM.1 0 (9, 0) rfl) rfl rfl rfl rfl ?_
      have hp77 : PS (up σ 0 29 (nI (nt + 1))) P key o (nt + 1) q C n := PS.bng hps _
      refine r_aload_n hX dX10_piece_33 rfl ?_
      refine r_callVV (As := []) (rest := []) hX (c_X10_next hM (up σ 0 29 (nI (nt + 1))) P (hp77).1 q.2.2.1 (wwB q) (hp77).2.1.1 (hp77).2.1.2.2.2.2.2 (lok).2.2.1) dX10_piece_34 cb_X10_294 (hM.1 0 (9, 0) rfl) rfl rfl ⟨by show _ ≤ d + 1 + 5; omega, by show _ ≤ 30 * (d + 1) + 130; omega⟩ ⟨Nat.le_of_ble_eq_true rfl, Nat.le_of_ble_eq_true rfl⟩ (Nat.le_of_ble_eq_true rfl) (fun σ78 h79 => ?_)
      obtain ⟨hl80, hx81⟩ := h79
      have hp82 : PS σ78 P key o (nt + 1) (nxq P q) C n := PS.nx hp77 hx81 hl80
      have hlok83 := (lok).nx
      refine r_aload_n hX dX10_piece_37 rfl ?_
      refine r_callVV (As := []) (rest := []) hX (by rw [hl, hD]; exact hsubP c76 σ78 (nxq P q) C n hp82 hlok83.1 (by (try simp only [List.length_append, List.length_cons, List.length_nil]); omega)) dX10_piece_38 cb_X10_297 (hM.1 0 (9, 0) rfl) rfl rfl ⟨by show _ ≤ d + 1 + 5; omega, by show _ ≤ 30 * (d + 1) + 130; omega⟩ ⟨Nat.le_of_ble_eq_true rfl, Nat.le_of_ble_eq_true rfl⟩ (Nat.le_of_ble_eq_true rfl) (fun σ84 h85 => ?_)
      obtain ⟨hq86, hx87⟩ := h85
      have hok88 := prs_ok P key d 5 o (nt + 1) (nxq P q) hlok83.1
      rcases hr89 : prs P key d 5 o (nt + 1) (nxq P q) with f90 | ⟨q91, c92, n93⟩
      · skip
        rw [hr89] at hq86
        refine r_aload_n hX dX10_piece_41 rfl ?_
        refine r_dup hX dX10_piece_42 rfl ?_
        refine r_getIV hX dX10_piece_43 fl_X10_288 (hM.1 0 (9, 0) rfl) rfl (σ84 0 29) rfl ?_
        refine r_iconst hX (nI 1) dX10_piece_46 rfl ?_
        refine r_isub hX dX10_piece_47 ?_
        refine r_putI hX dX10_piece_48 fl_X10_288 (hM.1 0 (9, 0) rfl) rfl rfl rfl rfl ?_
        refine r_aload_n hX dX10_piece_51 rfl ?_
        refine r_sipush hX (nI 20000) dX10_piece_52 rfl ?_
        refine r_callVV (As := [.int (nI 20000)]) (rest := []) hX (c_X10_emitB hM (up σ84 0 29 ((σ84 0 29) - (nI 1))) ((up_n (by omega)).trans hq86.1) (nI 20000)) dX10_piece_55 cb_X10_300 (hM.1 0 (9, 0) rfl) rfl rfl ⟨by show _ ≤ d + 1 + 5; omega, by show _ ≤ 30 * (d + 1) + 130; omega⟩ ⟨Nat.le_of_ble_eq_true rfl, Nat.le_of_ble_eq_true rfl⟩ (Nat.le_of_ble_eq_true rfl) (fun σ94 h95 => ?_)
        replace h95 := h95.symm
        subst h95
        refine r_goto hX dX10_piece_58 ?_
        exact r_return hX hQ dX10_piece_206 ⟨Nat.le_of_ble_eq_true rfl, Nat.le_of_ble_eq_true rfl⟩ (PV.mk ⟨by show PQ _ P key o nt C n (prs P key (d + 1) 5 o nt q); rw [prs_5]; unfold pce; rw [if_pos c1, if_neg c76, hr89]; exact ⟨((up_n (by omega)).trans hq86.1), ((up_n (by omega)).trans hq86.2)⟩, (Ex.up (Ex.tr (Ex.tr (Ex.up (Ex.rf σ) rfl) (pX_pY hx81)) hx87) rfl)⟩)
      · skip
        rw [hr89] at hq86 hok88
        have hp96 : PS σ84 P key o (nt + 1) q91 (C ++ c92) (n + n93) := hq86
        have hl97 : Lok P q91 ∧ (nxq P q).1 + c92.length ≤ q91.1 ∧ (nxq P q).1 < q91.1 := hok88
        have := hl97.1.2.1; have := hl97.1.2.2.1
        refine r_aload_n hX dX10_piece_41 rfl ?_
        refine r_dup hX dX10_piece_42 rfl ?_
        refine r_getIV hX dX10_piece_43 fl_X10_288 (hM.1 0 (9, 0) rfl) rfl (nI (nt + 1)) hp96.2.2.2.2.1 ?_
        refine r_iconst hX (nI 1) dX10_piece_46 rfl ?_
        refine r_isubN hX dX10_piece_47 (by omega) ?_
        refine r_putI hX dX10_piece_48 fl_X10_288 (hM.1 0 (9, 0) rfl) rfl rfl rfl rfl ?_
        have hp98 : PS (up σ84 0 29 (nI (nt + 1 - 1))) P key o nt q91 (C ++ c92) (n + n93) := PS.bng hp96 _
        refine r_aload_n hX dX10_piece_51 rfl ?_
        refine r_sipush hX (nI 20000) dX10_piece_52 rfl ?_
        refine r_callVV (As := [.int (nI 20000)]) (rest := []) hX (c_X10_emit hM (up σ84 0 29 (nI (nt + 1 - 1))) P key o nt q91 (C ++ c92) (n + n93) hp98 hl97.1 20000 (by (try simp only [List.length_append, List.length_cons, List.length_nil]); omega)) dX10_piece_55 cb_X10_300 (hM.1 0 (9, 0) rfl) rfl rfl ⟨by show _ ≤ d + 1 + 5; omega, by show _ ≤ 30 * (d + 1) + 130; omega⟩ ⟨Nat.le_of_ble_eq_true rfl, Nat.le_of_ble_eq_true rfl⟩ (Nat.le_of_ble_eq_true rfl) (fun σ99 h100 => ?_)
        obtain ⟨hp101, hx102⟩ := h100
        refine r_goto hX dX10_piece_58 ?_
        exact r_return hX hQ dX10_piece_206 ⟨Nat.le_of_ble_eq_true rfl, Nat.le_of_ble_eq_true rfl⟩ (PV.mk ⟨by show PQ _ P key o nt C n (prs P key (d + 1) 5 o nt q); rw [prs_5]; unfold pce; rw [if_pos c1, if_neg c76, hr89]; show PS _ P key o nt q91 (C ++ (c92 ++ [20000])) (n + n93); exact PS.as hp101 (by simp only [List.append_assoc]) rfl, (Ex.tr (Ex.up (Ex.tr (Ex.tr (Ex.up (Ex.rf σ) rfl) (pX_pY hx81)) hx87) rfl) hx102)⟩)
    · skip
      refine r_aload_n hX dX10_piece_18 rfl ?_
      refine r_callVV (As := []) (rest := []) hX (c_X10_fails hM σ P key o nt q C n hps lok) dX10_piece_19 cb_X10_291 (hM.1 0 (9, 0) rfl) rfl rfl ⟨by show _ ≤ d + 1 + 5; omega, by show _ ≤ 30 * (d + 1) + 130; omega⟩ ⟨Nat.le_of_ble_eq_true rfl, Nat.le_of_ble_eq_true rfl⟩ (Nat.le_of_ble_eq_true rfl) (fun σ103 h104 => ?_)
      obtain ⟨⟨h26105, h27106⟩, hx107⟩ := h104
      exact r_return hX hQ dX10_piece_22 ⟨Nat.le_of_ble_eq_true rfl, Nat.le_of_ble_eq_true rfl⟩ (PV.mk ⟨by show PQ _ P key o nt C n (prs P key (d + 1) 5 o nt q); rw [prs_5]; unfold pce; rw [if_pos c1, if_pos c76]; exact ⟨h26105, h27106⟩, (Ex.tr (Ex.rf σ) hx107)⟩)
