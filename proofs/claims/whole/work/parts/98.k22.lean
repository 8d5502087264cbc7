set_option maxHeartbeats 4000000 in
set_option maxRecDepth 100000 in
theorem c_X2_pieceA {l : Launch} {D : Ds} {L : La}  (J : Nat → Nat × Nat) (hJ : CW D J) (hA : CAt L) (P : Tp) (key d o nt : Nat) (hkey : key ≤ 2) (ho : o ≤ 8) (hnt : nt ≤ 8) (hsubP : nt < 8 → ∀ (σ : Me) (q : Lx) (C : List Nat) (n : Nat), PSc σ P key q C n → Lok P q → C.length + 1 ≤ q.1 → Ct l yX2_piece cX2_piece 3 none { frames := 2 * (d) + 10, cells := 0, slots := 0, locals := 50 * (d) + 300 } D L σ [.ref (L.1 105), .int (nI o), .int (nI (nt + 1))] (PV L (fun σ2 => PQc σ2 P key C n (prs P key d 5 o (nt + 1) q) ∧ Ex pYc σ σ2))) (hsubE : o < 8 → ∀ (σ : Me) (q : Lx) (C : List Nat) (n : Nat), PSc σ P key q C n → Lok P q → C.length + 1 ≤ q.1 → Ct l yX2_level cX2_level 6 none { frames := 2 * (d) + 11, cells := 0, slots := 0, locals := 50 * (d) + 325 } D L σ [.ref (L.1 105), .int (nI 0), .int (nI (o + 1)), .int (nI nt)] (PV L (fun σ2 => PQc σ2 P key C n (prs P key d 0 (o + 1) nt q) ∧ Ex pYc σ σ2))) (σ : Me) (q : Lx) (C : List Nat) (n : Nat) (hps : PSc σ P key q C n) (lok : Lok P q) (hCq : C.length + 1 ≤ q.1) : Ct l yX2_piece cX2_piece 3 none { frames := 2 * (d + 1) + 10, cells := 0, slots := 0, locals := 50 * (d + 1) + 300 } D L σ [.ref (L.1 105), .int (nI o), .int (nI nt)] (PV L (fun σ2 => PQc σ2 P key C n (prs P key (d + 1) 5 o nt q) ∧ Ex pYc σ σ2)) := by
  refine Ct.of (by decide) (Nat.le_of_ble_eq_true rfl) ?_
  intro X hl hD hnl hX0 hQ
  have hX : Ok X cX2_piece RX2 "piece" { frames := 2 * (d + 1) + 10, cells := 0, slots := 0, locals := 50 * (d + 1) + 300 } none := hX0
  have hP96 := hps.1.2.1
  have := lok.2.1; have := lok.2.2.1
  have hlx := lex_le (fun k hk => (hps.1.2.2 k hk).2) lok
  have hnl := nxN_le q
  show At X L σ 0 0 [(0, .ref (L.1 105)), (1, .int (nI o)), (2, .int (nI nt))] 0 []
  refine r_aload_n hX dX2_piece_0 rfl ?_
  refine r_getIV hX dX2_piece_1 fl_X2_28 (hA.1 105 (1, 0) rfl) rfl (nI (nxN q)) (hps).2.1.1 ?_
  refine r_iconst hX (nI 3) dX2_piece_4 rfl ?_
  refine r_icmpN_ne hX dX2_piece_5 (by omega) (by decide) (fun c1 => ?_) (fun c1 => ?_)
  · skip
    refine r_aload_n hX dX2_piece_32 rfl ?_
    refine r_getIV hX dX2_piece_33 fl_X2_28 (hA.1 105 (1, 0) rfl) rfl (nI (nxN q)) (hps).2.1.1 ?_
    refine r_iconst hX (nI 2) dX2_piece_36 rfl ?_
    refine r_icmpN_ne hX dX2_piece_37 (by omega) (by decide) (fun c2 => ?_) (fun c2 => ?_)
    · skip
      refine r_aload_n hX dX2_piece_75 rfl ?_
      refine r_bipush hX (nI 33) dX2_piece_76 rfl ?_
      refine r_callVF (As := [.int (nI 33)]) (rest := []) hX (c_X2_isMark hA σ P (hps).1 q (hps).2.1 lok 33 (by decide)) dX2_piece_78 cb_X2_113 (hA.1 105 (1, 0) rfl) rfl rfl ⟨by show _ ≤ 2 * (d + 1) + 10; omega, by show _ ≤ 50 * (d + 1) + 300; omega⟩ ⟨Nat.le_of_ble_eq_true rfl, Nat.le_of_ble_eq_true rfl⟩ (Nat.le_of_ble_eq_true rfl) ?_
      refine r_ifB_eq hX dX2_piece_81 (fun c3 => ?_) (fun c3 => ?_)
      · skip
        refine r_aload_n hX dX2_piece_112 rfl ?_
        refine r_bipush hX (nI 40) dX2_piece_113 rfl ?_
        refine r_callVF (As := [.int (nI 40)]) (rest := []) hX (c_X2_isMark hA σ P (hps).1 q (hps).2.1 lok 40 (by decide)) dX2_piece_115 cb_X2_113 (hA.1 105 (1, 0) rfl) rfl rfl ⟨by show _ ≤ 2 * (d + 1) + 10; omega, by show _ ≤ 50 * (d + 1) + 300; omega⟩ ⟨Nat.le_of_ble_eq_true rfl, Nat.le_of_ble_eq_true rfl⟩ (Nat.le_of_ble_eq_true rfl) ?_
        refine r_ifB_eq hX dX2_piece_118 (fun c4 => ?_) (fun c4 => ?_)
        · skip
          refine r_aload_n hX dX2_piece_147 rfl ?_
          refine r_aload_n hX dX2_piece_148 rfl ?_
          refine r_getIV hX dX2_piece_149 fl_X2_31 (hA.1 105 (1, 0) rfl) rfl (nI q.1) (hps).2.1.2.1 ?_
          refine r_putI hX dX2_piece_152 fl_X2_25 (hA.1 105 (1, 0) rfl) rfl rfl rfl rfl ?_
          exact r_return hX hQ dX2_piece_155 ⟨Nat.le_of_ble_eq_true rfl, Nat.le_of_ble_eq_true rfl⟩ (PV.mk ⟨by show PQc _ P key C n (prs P key (d + 1) 5 o nt q); rw [prs_5, pce_f ⟨no_mk2a lok c1, no_nm1 lok c2⟩ (fun e => by rw [c3] at e; cases e) (fun e => by rw [c4] at e; cases e)]; exact PSc.fl hps (by omega) q.1, Ex.up (Ex.rf σ) rfl⟩)
        · skip
          refine r_iload_n hX dX2_piece_121 rfl ?_
          refine r_bipush hX (nI 8) dX2_piece_122 rfl ?_
          refine r_icmpN_ge hX dX2_piece_124 (by omega) (by decide) (fun c5 => ?_) (fun c5 => ?_)
          · skip
            refine r_aload_n hX dX2_piece_147 rfl ?_
            refine r_aload_n hX dX2_piece_148 rfl ?_
            refine r_getIV hX dX2_piece_149 fl_X2_31 (hA.1 105 (1, 0) rfl) rfl (nI q.1) (hps).2.1.2.1 ?_
            refine r_putI hX dX2_piece_152 fl_X2_25 (hA.1 105 (1, 0) rfl) rfl rfl rfl rfl ?_
            exact r_return hX hQ dX2_piece_155 ⟨Nat.le_of_ble_eq_true rfl, Nat.le_of_ble_eq_true rfl⟩ (PV.mk ⟨by show PQc _ P key C n (prs P key (d + 1) 5 o nt q); rw [prs_5, pce_f ⟨no_mk2a lok c1, no_nm1 lok c2⟩ (fun e => by rw [c3] at e; cases e) (fun _ => by omega)]; exact PSc.fl hps (by omega) q.1, Ex.up (Ex.rf σ) rfl⟩)
          · skip
            refine r_aload_n hX dX2_piece_127 rfl ?_
            refine r_callVV (As := []) (rest := []) hX (c_X2_step hA σ P (hps).1 q.2.2.1 (nxN q) (wwB q) (lok).2.2.1 (nxN_le _) (hps).2.1.1 (hps).2.1.2.2 (ww_nx (ok3 (sg_y3 c4)))) dX2_piece_128 cb_X2_41 (hA.1 105 (1, 0) rfl) rfl rfl ⟨by show _ ≤ 2 * (d + 1) + 10; omega, by show _ ≤ 50 * (d + 1) + 300; omega⟩ ⟨Nat.le_of_ble_eq_true rfl, Nat.le_of_ble_eq_true rfl⟩ (Nat.le_of_ble_eq_true rfl) (fun σ6 h7 => ?_)
            obtain ⟨hl8, hx9⟩ := h7
            have hp10 : PSc σ6 P key (nxq P q) C n := PSc.nx hps hx9 hl8
            have hlok11 := (lok).nx
            refine r_aload_n hX dX2_piece_131 rfl ?_
            refine r_iconst hX (nI 0) dX2_piece_132 rfl ?_
            refine r_iload_n hX dX2_piece_133 rfl ?_
            refine r_iconst hX (nI 1) dX2_piece_134 rfl ?_
            refine r_iaddN hX dX2_piece_135 ?_
            refine r_iload_n hX dX2_piece_136 rfl ?_
            have hmn1 := hlok11.2.1; have hmn2 := hlok11.2.2
            refine r_callVV (As := [.int (nI 0), .int (nI (o + 1)), .int (nI nt)]) (rest := []) hX (by rw [hl, hD]; exact hsubE (by omega) σ6 (nxq P q) C n hp10 hlok11.1 (by (try simp only [List.length_append, List.length_cons, List.length_nil]); omega)) dX2_piece_137 cb_X2_48 (hA.1 105 (1, 0) rfl) rfl rfl ⟨by show _ ≤ 2 * (d + 1) + 10; omega, by show _ ≤ 50 * (d + 1) + 300; omega⟩ ⟨Nat.le_of_ble_eq_true rfl, Nat.le_of_ble_eq_true rfl⟩ (Nat.le_of_ble_eq_true rfl) (fun σ12 h13 => ?_)
            obtain ⟨hq14, hx15⟩ := h13
            have hok16 := prs_ok P key d 0 (o + 1) nt (nxq P q) hlok11.1
            rcases hr17 : prs P key d 0 (o + 1) nt (nxq P q) with f18 | ⟨q19, c20, n21⟩
            · skip
              rw [hr17] at hq14 hok16
              have hq14 : FLc σ12 f18 := hq14
              have hflf18 : f18 ≤ P.1 := hok16.2
              refine r_aload_n hX dX2_piece_140 rfl ?_
              refine r_callVV (As := []) (rest := []) hX (c_X2_closeB hA σ12 f18 hq14 (by omega)) dX2_piece_141 cb_X2_117 (hA.1 105 (1, 0) rfl) rfl rfl ⟨by show _ ≤ 2 * (d + 1) + 10; omega, by show _ ≤ 50 * (d + 1) + 300; omega⟩ ⟨Nat.le_of_ble_eq_true rfl, Nat.le_of_ble_eq_true rfl⟩ (Nat.le_of_ble_eq_true rfl) (fun σ22 h23 => ?_)
              replace h23 := h23.symm
              subst h23
              refine r_goto hX dX2_piece_144 ?_
              exact r_return hX hQ dX2_piece_155 ⟨Nat.le_of_ble_eq_true rfl, Nat.le_of_ble_eq_true rfl⟩ (PV.mk ⟨by show PQc _ P key C n (prs P key (d + 1) 5 o nt q); rw [prs_5, pce_o c4 (by omega), hr17]; exact hq14, (Ex.tr (Ex.tr (Ex.rf σ) (pXc_pYc hx9)) hx15)⟩)
            · skip
              rw [hr17] at hq14 hok16
              have hp24 : PSc σ12 P key q19 (C ++ c20) (n + n21) := hq14
              have hl25 : Lok P q19 ∧ (nxq P q).1 + c20.length ≤ q19.1 ∧ (nxq P q).1 < q19.1 := hok16
              have := hl25.1.2.1; have := hl25.1.2.2.1
              refine r_aload_n hX dX2_piece_140 rfl ?_
              refine r_callVV (As := []) (rest := []) hX (c_X2_close hA σ12 P key q19 (C ++ c20) (n + n21) hp24 hl25.1 (by (try simp only [List.length_append, List.length_cons, List.length_nil]); omega)) dX2_piece_141 cb_X2_117 (hA.1 105 (1, 0) rfl) rfl rfl ⟨by show _ ≤ 2 * (d + 1) + 10; omega, by show _ ≤ 50 * (d + 1) + 300; omega⟩ ⟨Nat.le_of_ble_eq_true rfl, Nat.le_of_ble_eq_true rfl⟩ (Nat.le_of_ble_eq_true rfl) (fun σ26 h27 => ?_)
              obtain ⟨hp28, hx29⟩ := h27
              refine r_goto hX dX2_piece_144 ?_
              exact r_return hX hQ dX2_piece_155 ⟨Nat.le_of_ble_eq_true rfl, Nat.le_of_ble_eq_true rfl⟩ (PV.mk ⟨by show PQc _ P key C n (prs P key (d + 1) 5 o nt q); rw [prs_5, pce_o c4 (by omega), hr17]; exact close_fin hp28, (Ex.tr (Ex.tr (Ex.tr (Ex.rf σ) (pXc_pYc hx9)) hx15) hx29)⟩)
      · skip
        refine r_iload_n hX dX2_piece_84 rfl ?_
        refine r_bipush hX (nI 8) dX2_piece_85 rfl ?_
        refine r_icmpN_ge hX dX2_piece_87 (by omega) (by decide) (fun c30 => ?_) (fun c30 => ?_)
        · skip
          refine r_aload_n hX dX2_piece_112 rfl ?_
          refine r_bipush hX (nI 40) dX2_piece_113 rfl ?_
          refine r_callVF (As := [.int (nI 40)]) (rest := []) hX (c_X2_isMark hA σ P (hps).1 q (hps).2.1 lok 40 (by decide)) dX2_piece_115 cb_X2_113 (hA.1 105 (1, 0) rfl) rfl rfl ⟨by show _ ≤ 2 * (d + 1) + 10; omega, by show _ ≤ 50 * (d + 1) + 300; omega⟩ ⟨Nat.le_of_ble_eq_true rfl, Nat.le_of_ble_eq_true rfl⟩ (Nat.le_of_ble_eq_true rfl) ?_
          refine r_ifB_eq hX dX2_piece_118 (fun c31 => ?_) (fun c31 => ?_)
          · skip
            refine r_aload_n hX dX2_piece_147 rfl ?_
            refine r_aload_n hX dX2_piece_148 rfl ?_
            refine r_getIV hX dX2_piece_149 fl_X2_31 (hA.1 105 (1, 0) rfl) rfl (nI q.1) (hps).2.1.2.1 ?_
            refine r_putI hX dX2_piece_152 fl_X2_25 (hA.1 105 (1, 0) rfl) rfl rfl rfl rfl ?_
            exact r_return hX hQ dX2_piece_155 ⟨Nat.le_of_ble_eq_true rfl, Nat.le_of_ble_eq_true rfl⟩ (PV.mk ⟨by show PQc _ P key C n (prs P key (d + 1) 5 o nt q); rw [prs_5, pce_f ⟨no_mk2a lok c1, no_nm1 lok c2⟩ (fun _ => by omega) (fun e => by rw [c31] at e; cases e)]; exact PSc.fl hps (by omega) q.1, Ex.up (Ex.rf σ) rfl⟩)
          · skip
            refine r_iload_n hX dX2_piece_121 rfl ?_
            refine r_bipush hX (nI 8) dX2_piece_122 rfl ?_
            refine r_icmpN_ge hX dX2_piece_124 (by omega) (by decide) (fun c32 => ?_) (fun c32 => ?_)
            · skip
              refine r_aload_n hX dX2_piece_147 rfl ?_
              refine r_aload_n hX dX2_piece_148 rfl ?_
              refine r_getIV hX dX2_piece_149 fl_X2_31 (hA.1 105 (1, 0) rfl) rfl (nI q.1) (hps).2.1.2.1 ?_
              refine r_putI hX dX2_piece_152 fl_X2_25 (hA.1 105 (1, 0) rfl) rfl rfl rfl rfl ?_
              exact r_return hX hQ dX2_piece_155 ⟨Nat.le_of_ble_eq_true rfl, Nat.le_of_ble_eq_true rfl⟩ (PV.mk ⟨by show PQc _ P key C n (prs P key (d + 1) 5 o nt q); rw [prs_5, pce_f ⟨no_mk2a lok c1, no_nm1 lok c2⟩ (fun _ => by omega) (fun _ => by omega)]; exact PSc.fl hps (by omega) q.1, Ex.up (Ex.rf σ) rfl⟩)
            · skip
              refine r_aload_n hX dX2_piece_127 rfl ?_
              refine r_callVV (As := []) (rest := []) hX (c_X2_step hA σ P (hps).1 q.2.2.1 (nxN q) (wwB q) (lok).2.2.1 (nxN_le _) (hps).2.1.1 (hps).2.1.2.2 (ww_nx (ok3 (sg_y3 c31)))) dX2_piece_128 cb_X2_41 (hA.1 105 (1, 0) rfl) rfl rfl ⟨by show _ ≤ 2 * (d + 1) + 10; omega, by show _ ≤ 50 * (d + 1) + 300; omega⟩ ⟨Nat.le_of_ble_eq_true rfl, Nat.le_of_ble_eq_true rfl⟩ (Nat.le_of_ble_eq_true rfl) (fun σ33 h34 => ?_)
              obtain ⟨hl35, hx36⟩ := h34
              have hp37 : PSc σ33 P key (nxq P q) C n := PSc.nx hps hx36 hl35
              have hlok38 := (lok).nx
              refine r_aload_n hX dX2_piece_131 rfl ?_
              refine r_iconst hX (nI 0) dX2_piece_132 rfl ?_
              refine r_iload_n hX dX2_piece_133 rfl ?_
              refine r_iconst hX (nI 1) dX2_piece_134 rfl ?_
              refine r_iaddN hX dX2_piece_135 ?_
              refine r_iload_n hX dX2_piece_136 rfl ?_
              have hmn1 := hlok38.2.1; have hmn2 := hlok38.2.2
              refine r_callVV (As := [.int (nI 0), .int (nI (o + 1)), .int (nI nt)]) (rest := []) hX (by rw [hl, hD]; exact hsubE (by omega) σ33 (nxq P q) C n hp37 hlok38.1 (by (try simp only [List.length_append, List.length_cons, List.length_nil]); omega)) dX2_piece_137 cb_X2_48 (hA.1 105 (1, 0) rfl) rfl rfl ⟨by show _ ≤ 2 * (d + 1) + 10; omega, by show _ ≤ 50 * (d + 1) + 300; omega⟩ ⟨Nat.le_of_ble_eq_true rfl, Nat.le_of_ble_eq_true rfl⟩ (Nat.le_of_ble_eq_true rfl) (fun σ39 h40 => ?_)
              obtain ⟨hq41, hx42⟩ := h40
              have hok43 := prs_ok P key d 0 (o + 1) nt (nxq P q) hlok38.1
              rcases hr44 : prs P key d 0 (o + 1) nt (nxq P q) with f45 | ⟨q46, c47, n48⟩
              · skip
                rw [hr44] at hq41 hok43
                have hq41 : FLc σ39 f45 := hq41
                have hflf45 : f45 ≤ P.1 := hok43.2
                refine r_aload_n hX dX2_piece_140 rfl ?_
                refine r_callVV (As := []) (rest := []) hX (c_X2_closeB hA σ39 f45 hq41 (by omega)) dX2_piece_141 cb_X2_117 (hA.1 105 (1, 0) rfl) rfl rfl ⟨by show _ ≤ 2 * (d + 1) + 10; omega, by show _ ≤ 50 * (d + 1) + 300; omega⟩ ⟨Nat.le_of_ble_eq_true rfl, Nat.le_of_ble_eq_true rfl⟩ (Nat.le_of_ble_eq_true rfl) (fun σ49 h50 => ?_)
                replace h50 := h50.symm
                subst h50
                refine r_goto hX dX2_piece_144 ?_
                exact r_return hX hQ dX2_piece_155 ⟨Nat.le_of_ble_eq_true rfl, Nat.le_of_ble_eq_true rfl⟩ (PV.mk ⟨by show PQc _ P key C n (prs P key (d + 1) 5 o nt q); rw [prs_5, pce_o c31 (by omega), hr44]; exact hq41, (Ex.tr (Ex.tr (Ex.rf σ) (pXc_pYc hx36)) hx42)⟩)
              · skip
                rw [hr44] at hq41 hok43
                have hp51 : PSc σ39 P key q46 (C ++ c47) (n + n48) := hq41
                have hl52 : Lok P q46 ∧ (nxq P q).1 + c47.length ≤ q46.1 ∧ (nxq P q).1 < q46.1 := hok43
                have := hl52.1.2.1; have := hl52.1.2.2.1
                refine r_aload_n hX dX2_piece_140 rfl ?_
                refine r_callVV (As := []) (rest := []) hX (c_X2_close hA σ39 P key q46 (C ++ c47) (n + n48) hp51 hl52.1 (by (try simp only [List.length_append, List.length_cons, List.length_nil]); omega)) dX2_piece_141 cb_X2_117 (hA.1 105 (1, 0) rfl) rfl rfl ⟨by show _ ≤ 2 * (d + 1) + 10; omega, by show _ ≤ 50 * (d + 1) + 300; omega⟩ ⟨Nat.le_of_ble_eq_true rfl, Nat.le_of_ble_eq_true rfl⟩ (Nat.le_of_ble_eq_true rfl) (fun σ53 h54 => ?_)
                obtain ⟨hp55, hx56⟩ := h54
                refine r_goto hX dX2_piece_144 ?_
                exact r_return hX hQ dX2_piece_155 ⟨Nat.le_of_ble_eq_true rfl, Nat.le_of_ble_eq_true rfl⟩ (PV.mk ⟨by show PQc _ P key C n (prs P key (d + 1) 5 o nt q); rw [prs_5, pce_o c31 (by omega), hr44]; exact close_fin hp55, (Ex.tr (Ex.tr (Ex.tr (Ex.rf σ) (pXc_pYc hx36)) hx42) hx56)⟩)
        · skip
          refine r_aload_n hX dX2_piece_90 rfl ?_
          refine r_callVV (As := []) (rest := []) hX (c_X2_step hA σ P (hps).1 q.2.2.1 (nxN q) (wwB q) (lok).2.2.1 (nxN_le _) (hps).2.1.1 (hps).2.1.2.2 (ww_nx (ok3 (sg_y3 c3)))) dX2_piece_91 cb_X2_41 (hA.1 105 (1, 0) rfl) rfl rfl ⟨by show _ ≤ 2 * (d + 1) + 10; omega, by show _ ≤ 50 * (d + 1) + 300; omega⟩ ⟨Nat.le_of_ble_eq_true rfl, Nat.le_of_ble_eq_true rfl⟩ (Nat.le_of_ble_eq_true rfl) (fun σ57 h58 => ?_)
          obtain ⟨hl59, hx60⟩ := h58
          have hp61 : PSc σ57 P key (nxq P q) C n := PSc.nx hps hx60 hl59
          have hlok62 := (lok).nx
          refine r_aload_n hX dX2_piece_94 rfl ?_
          refine r_iload_n hX dX2_piece_95 rfl ?_
          refine r_iload_n hX dX2_piece_96 rfl ?_
          refine r_iconst hX (nI 1) dX2_piece_97 rfl ?_
          refine r_iaddN hX dX2_piece_98 ?_
          have hmn1 := hlok62.2.1; have hmn2 := hlok62.2.2
          refine r_callVV (As := [.int (nI o), .int (nI (nt + 1))]) (rest := []) hX (by rw [hl, hD]; exact hsubP (by omega) σ57 (nxq P q) C n hp61 hlok62.1 (by (try simp only [List.length_append, List.length_cons, List.length_nil]); omega)) dX2_piece_99 cb_X2_93 (hA.1 105 (1, 0) rfl) rfl rfl ⟨by show _ ≤ 2 * (d + 1) + 10; omega, by show _ ≤ 50 * (d + 1) + 300; omega⟩ ⟨Nat.le_of_ble_eq_true rfl, Nat.le_of_ble_eq_true rfl⟩ (Nat.le_of_ble_eq_true rfl) (fun σ63 h64 => ?_)
          obtain ⟨hq65, hx66⟩ := h64
          have hok67 := prs_ok P key d 5 o (nt + 1) (nxq P q) hlok62.1
          rcases hr68 : prs P key d 5 o (nt + 1) (nxq P q) with f69 | ⟨q70, c71, n72⟩
          · skip
            rw [hr68] at hq65 hok67
            have hq65 : FLc σ63 f69 := hq65
            have hflf69 : f69 ≤ P.1 := hok67.2
            refine r_aload_n hX dX2_piece_102 rfl ?_
            refine r_sipush hX (nI 20033) dX2_piece_103 rfl ?_
            refine r_callVV (As := [.int (nI 20033)]) (rest := []) hX (c_X2_putB hA σ63 f69 hq65 (nI 20033)) dX2_piece_106 cb_X2_100 (hA.1 105 (1, 0) rfl) rfl rfl ⟨by show _ ≤ 2 * (d + 1) + 10; omega, by show _ ≤ 50 * (d + 1) + 300; omega⟩ ⟨Nat.le_of_ble_eq_true rfl, Nat.le_of_ble_eq_true rfl⟩ (Nat.le_of_ble_eq_true rfl) (fun σ73 h74 => ?_)
            obtain ⟨hb75, hx76⟩ := h74
            refine r_goto hX dX2_piece_109 ?_
            exact r_return hX hQ dX2_piece_155 ⟨Nat.le_of_ble_eq_true rfl, Nat.le_of_ble_eq_true rfl⟩ (PV.mk ⟨by show PQc _ P key C n (prs P key (d + 1) 5 o nt q); rw [prs_5, pce_b c3 (by omega), hr68]; exact hb75, (Ex.tr (Ex.tr (Ex.tr (Ex.rf σ) (pXc_pYc hx60)) hx66) hx76)⟩)
          · skip
            rw [hr68] at hq65 hok67
            have hp77 : PSc σ63 P key q70 (C ++ c71) (n + n72) := hq65
            have hl78 : Lok P q70 ∧ (nxq P q).1 + c71.length ≤ q70.1 ∧ (nxq P q).1 < q70.1 := hok67
            have := hl78.1.2.1; have := hl78.1.2.2.1
            refine r_aload_n hX dX2_piece_102 rfl ?_
            refine r_sipush hX (nI 20033) dX2_piece_103 rfl ?_
            refine r_callVV (As := [.int (nI 20033)]) (rest := []) hX (by rw [show nI 20033 = nI (tcd key 20000) from rfl]; exact c_X2_put hA σ63 P key q70 (C ++ c71) (n + n72) hp77 hl78.1 20000 (by (try simp only [List.length_append, List.length_cons, List.length_nil]); omega)) dX2_piece_106 cb_X2_100 (hA.1 105 (1, 0) rfl) rfl rfl ⟨by show _ ≤ 2 * (d + 1) + 10; omega, by show _ ≤ 50 * (d + 1) + 300; omega⟩ ⟨Nat.le_of_ble_eq_true rfl, Nat.le_of_ble_eq_true rfl⟩ (Nat.le_of_ble_eq_true rfl) (fun σ79 h80 => ?_)
            obtain ⟨hp81, hx82⟩ := h80
            refine r_goto hX dX2_piece_109 ?_
            exact r_return hX hQ dX2_piece_155 ⟨Nat.le_of_ble_eq_true rfl, Nat.le_of_ble_eq_true rfl⟩ (PV.mk ⟨by show PQc _ P key C n (prs P key (d + 1) 5 o nt q); rw [prs_5, pce_b c3 (by omega), hr68]; show PSc _ P key q70 (C ++ (c71 ++ [20000])) (n + n72); exact PSc.as hp81 (by simp only [List.append_assoc]) rfl, (Ex.tr (Ex.tr (Ex.tr (Ex.rf σ) (pXc_pYc hx60)) hx66) hx82)⟩)
    · skip
      have h1q := ((nx2 lok).mp c2).1
      have hlr := let_rng lok h1q
      have hqlt := lok.2.2.2 (by omega)
      refine r_aload_n hX dX2_piece_40 rfl ?_
      refine r_getIV hX dX2_piece_41 fl_X2_34 (hA.1 105 (1, 0) rfl) rfl (nI q.2.2.1) (hps).2.1.2.2 ?_
      refine r_aload_n hX dX2_piece_44 rfl ?_
      refine r_getIV hX dX2_piece_45 fl_X2_31 (hA.1 105 (1, 0) rfl) rfl (nI q.1) (hps).2.1.2.1 ?_
      refine r_isubN hX dX2_piece_48 (by omega) ?_
      refine r_iconst hX (nI 1) dX2_piece_49 rfl ?_
      refine r_icmpN_ne hX dX2_piece_50 (by omega) (by decide) (fun c83 => ?_) (fun c83 => ?_)
      · skip
        refine r_aload_n hX dX2_piece_75 rfl ?_
        refine r_bipush hX (nI 33) dX2_piece_76 rfl ?_
        refine r_callVF (As := [.int (nI 33)]) (rest := []) hX (c_X2_isMark hA σ P (hps).1 q (hps).2.1 lok 33 (by decide)) dX2_piece_78 cb_X2_113 (hA.1 105 (1, 0) rfl) rfl rfl ⟨by show _ ≤ 2 * (d + 1) + 10; omega, by show _ ≤ 50 * (d + 1) + 300; omega⟩ ⟨Nat.le_of_ble_eq_true rfl, Nat.le_of_ble_eq_true rfl⟩ (Nat.le_of_ble_eq_true rfl) ?_
        refine r_ifB_eq hX dX2_piece_81 (fun c84 => ?_) (fun c84 => ?_)
        · skip
          refine r_aload_n hX dX2_piece_112 rfl ?_
          refine r_bipush hX (nI 40) dX2_piece_113 rfl ?_
          refine r_callVF (As := [.int (nI 40)]) (rest := []) hX (c_X2_isMark hA σ P (hps).1 q (hps).2.1 lok 40 (by decide)) dX2_piece_115 cb_X2_113 (hA.1 105 (1, 0) rfl) rfl rfl ⟨by show _ ≤ 2 * (d + 1) + 10; omega, by show _ ≤ 50 * (d + 1) + 300; omega⟩ ⟨Nat.le_of_ble_eq_true rfl, Nat.le_of_ble_eq_true rfl⟩ (Nat.le_of_ble_eq_true rfl) ?_
          refine r_ifB_eq hX dX2_piece_118 (fun c85 => ?_) (fun c85 => ?_)
          · skip
            refine r_aload_n hX dX2_piece_147 rfl ?_
            refine r_aload_n hX dX2_piece_148 rfl ?_
            refine r_getIV hX dX2_piece_149 fl_X2_31 (hA.1 105 (1, 0) rfl) rfl (nI q.1) (hps).2.1.2.1 ?_
            refine r_putI hX dX2_piece_152 fl_X2_25 (hA.1 105 (1, 0) rfl) rfl rfl rfl rfl ?_
            exact r_return hX hQ dX2_piece_155 ⟨Nat.le_of_ble_eq_true rfl, Nat.le_of_ble_eq_true rfl⟩ (PV.mk ⟨by show PQc _ P key C n (prs P key (d + 1) 5 o nt q); rw [prs_5, pce_f ⟨no_mk2a lok c1, no_nm2 lok c2 c83⟩ (fun e => by rw [c84] at e; cases e) (fun e => by rw [c85] at e; cases e)]; exact PSc.fl hps (by omega) q.1, Ex.up (Ex.rf σ) rfl⟩)
          · skip
            refine r_iload_n hX dX2_piece_121 rfl ?_
            refine r_bipush hX (nI 8) dX2_piece_122 rfl ?_
            refine r_icmpN_ge hX dX2_piece_124 (by omega) (by decide) (fun c86 => ?_) (fun c86 => ?_)
            · skip
              refine r_aload_n hX dX2_piece_147 rfl ?_
              refine r_aload_n hX dX2_piece_148 rfl ?_
              refine r_getIV hX dX2_piece_149 fl_X2_31 (hA.1 105 (1, 0) rfl) rfl (nI q.1) (hps).2.1.2.1 ?_
              refine r_putI hX dX2_piece_152 fl_X2_25 (hA.1 105 (1, 0) rfl) rfl rfl rfl rfl ?_
              exact r_return hX hQ dX2_piece_155 ⟨Nat.le_of_ble_eq_true rfl, Nat.le_of_ble_eq_true rfl⟩ (PV.mk ⟨by show PQc _ P key C n (prs P key (d + 1) 5 o nt q); rw [prs_5, pce_f ⟨no_mk2a lok c1, no_nm2 lok c2 c83⟩ (fun e => by rw [c84] at e; cases e) (fun _ => by omega)]; exact PSc.fl hps (by omega) q.1, Ex.up (Ex.rf σ) rfl⟩)
            · skip
              refine r_aload_n hX dX2_piece_127 rfl ?_
              refine r_callVV (As := []) (rest := []) hX (c_X2_step hA σ P (hps).1 q.2.2.1 (nxN q) (wwB q) (lok).2.2.1 (nxN_le _) (hps).2.1.1 (hps).2.1.2.2 (ww_nx (ok3 (sg_y3 c85)))) dX2_piece_128 cb_X2_41 (hA.1 105 (1, 0) rfl) rfl rfl ⟨by show _ ≤ 2 * (d + 1) + 10; omega, by show _ ≤ 50 * (d + 1) + 300; omega⟩ ⟨Nat.le_of_ble_eq_true rfl, Nat.le_of_ble_eq_true rfl⟩ (Nat.le_of_ble_eq_true rfl) (fun σ87 h88 => ?_)
              obtain ⟨hl89, hx90⟩ := h88
              have hp91 : PSc σ87 P key (nxq P q) C n := PSc.nx hps hx90 hl89
              have hlok92 := (lok).nx
              refine r_aload_n hX dX2_piece_131 rfl ?_
              refine r_iconst hX (nI 0) dX2_piece_132 rfl ?_
              refine r_iload_n hX dX2_piece_133 rfl ?_
              refine r_iconst hX (nI 1) dX2_piece_134 rfl ?_
              refine r_iaddN hX dX2_piece_135 ?_
              refine r_iload_n hX dX2_piece_136 rfl ?_
              have hmn1 := hlok92.2.1; have hmn2 := hlok92.2.2
              refine r_callVV (As := [.int (nI 0), .int (nI (o + 1)), .int (nI nt)]) (rest := []) hX (by rw [hl, hD]; exact hsubE (by omega) σ87 (nxq P q) C n hp91 hlok92.1 (by (try simp only [List.length_append, List.length_cons, List.length_nil]); omega)) dX2_piece_137 cb_X2_48 (hA.1 105 (1, 0) rfl) rfl rfl ⟨by show _ ≤ 2 * (d + 1) + 10; omega, by show _ ≤ 50 * (d + 1) + 300; omega⟩ ⟨Nat.le_of_ble_eq_true rfl, Nat.le_of_ble_eq_true rfl⟩ (Nat.le_of_ble_eq_true rfl) (fun σ93 h94 => ?_)
              obtain ⟨hq95, hx96⟩ := h94
              have hok97 := prs_ok P key d 0 (o + 1) nt (nxq P q) hlok92.1
              rcases hr98 : prs P key d 0 (o + 1) nt (nxq P q) with f99 | ⟨q100, c101, n102⟩
              · skip
                rw [hr98] at hq95 hok97
                have hq95 : FLc σ93 f99 := hq95
                have hflf99 : f99 ≤ P.1 := hok97.2
                refine r_aload_n hX dX2_piece_140 rfl ?_
                refine r_callVV (As := []) (rest := []) hX (c_X2_closeB hA σ93 f99 hq95 (by omega)) dX2_piece_141 cb_X2_117 (hA.1 105 (1, 0) rfl) rfl rfl ⟨by show _ ≤ 2 * (d + 1) + 10; omega, by show _ ≤ 50 * (d + 1) + 300; omega⟩ ⟨Nat.le_of_ble_eq_true rfl, Nat.le_of_ble_eq_true rfl⟩ (Nat.le_of_ble_eq_true rfl) (fun σ103 h104 => ?_)
                replace h104 := h104.symm
                subst h104
                refine r_goto hX dX2_piece_144 ?_
                exact r_return hX hQ dX2_piece_155 ⟨Nat.le_of_ble_eq_true rfl, Nat.le_of_ble_eq_true rfl⟩ (PV.mk ⟨by show PQc _ P key C n (prs P key (d + 1) 5 o nt q); rw [prs_5, pce_o c85 (by omega), hr98]; exact hq95, (Ex.tr (Ex.tr (Ex.rf σ) (pXc_pYc hx90)) hx96)⟩)
              · skip
                rw [hr98] at hq95 hok97
                have hp105 : PSc σ93 P key q100 (C ++ c101) (n + n102) := hq95
                have hl106 : Lok P q100 ∧ (nxq P q).1 + c101.length ≤ q100.1 ∧ (nxq P q).1 < q100.1 := hok97
                have := hl106.1.2.1; have := hl106.1.2.2.1
                refine r_aload_n hX dX2_piece_140 rfl ?_
                refine r_callVV (As := []) (rest := []) hX (c_X2_close hA σ93 P key q100 (C ++ c101) (n + n102) hp105 hl106.1 (by (try simp only [List.length_append, List.length_cons, List.length_nil]); omega)) dX2_piece_141 cb_X2_117 (hA.1 105 (1, 0) rfl) rfl rfl ⟨by show _ ≤ 2 * (d + 1) + 10; omega, by show _ ≤ 50 * (d + 1) + 300; omega⟩ ⟨Nat.le_of_ble_eq_true rfl, Nat.le_of_ble_eq_true rfl⟩ (Nat.le_of_ble_eq_true rfl) (fun σ107 h108 => ?_)
                obtain ⟨hp109, hx110⟩ := h108
                refine r_goto hX dX2_piece_144 ?_
                exact r_return hX hQ dX2_piece_155 ⟨Nat.le_of_ble_eq_true rfl, Nat.le_of_ble_eq_true rfl⟩ (PV.mk ⟨by show PQc _ P key C n (prs P key (d + 1) 5 o nt q); rw [prs_5, pce_o c85 (by omega), hr98]; exact close_fin hp109, (Ex.tr (Ex.tr (Ex.tr (Ex.rf σ) (pXc_pYc hx90)) hx96) hx110)⟩)
        · skip
          refine r_iload_n hX dX2_piece_84 rfl ?_
          refine r_bipush hX (nI 8) dX2_piece_85 rfl ?_
          refine r_icmpN_ge hX dX2_piece_87 (by omega) (by decide) (fun c111 => ?_) (fun c111 => ?_)
          · skip
            refine r_aload_n hX dX2_piece_112 rfl ?_
            refine r_bipush hX (nI 40) dX2_piece_113 rfl ?_
            refine r_callVF (As := [.int (nI 40)]) (rest := []) hX (c_X2_isMark hA σ P (hps).1 q (hps).2.1 lok 40 (by decide)) dX2_piece_115 cb_X2_113 (hA.1 105 (1, 0) rfl) rfl rfl ⟨by show _ ≤ 2 * (d + 1) + 10; omega, by show _ ≤ 50 * (d + 1) + 300; omega⟩ ⟨Nat.le_of_ble_eq_true rfl, Nat.le_of_ble_eq_true rfl⟩ (Nat.le_of_ble_eq_true rfl) ?_
            refine r_ifB_eq hX dX2_piece_118 (fun c112 => ?_) (fun c112 => ?_)
            · skip
              refine r_aload_n hX dX2_piece_147 rfl ?_
              refine r_aload_n hX dX2_piece_148 rfl ?_
              refine r_getIV hX dX2_piece_149 fl_X2_31 (hA.1 105 (1, 0) rfl) rfl (nI q.1) (hps).2.1.2.1 ?_
              refine r_putI hX dX2_piece_152 fl_X2_25 (hA.1 105 (1, 0) rfl) rfl rfl rfl rfl ?_
              exact r_return hX hQ dX2_piece_155 ⟨Nat.le_of_ble_eq_true rfl, Nat.le_of_ble_eq_true rfl⟩ (PV.mk ⟨by show PQc _ P key C n (prs P key (d + 1) 5 o nt q); rw [prs_5, pce_f ⟨no_mk2a lok c1, no_nm2 lok c2 c83⟩ (fun _ => by omega) (fun e => by rw [c112] at e; cases e)]; exact PSc.fl hps (by omega) q.1, Ex.up (Ex.rf σ) rfl⟩)
            · skip
              refine r_iload_n hX dX2_piece_121 rfl ?_
              refine r_bipush hX (nI 8) dX2_piece_122 rfl ?_
              refine r_icmpN_ge hX dX2_piece_124 (by omega) (by decide) (fun c113 => ?_) (fun c113 => ?_)
              · skip
                refine r_aload_n hX dX2_piece_147 rfl ?_
                refine r_aload_n hX dX2_piece_148 rfl ?_
                refine r_getIV hX dX2_piece_149 fl_X2_31 (hA.1 105 (1, 0) rfl) rfl (nI q.1) (hps).2.1.2.1 ?_
                refine r_putI hX dX2_piece_152 fl_X2_25 (hA.1 105 (1, 0) rfl) rfl rfl rfl rfl ?_
                exact r_return hX hQ dX2_piece_155 ⟨Nat.le_of_ble_eq_true rfl, Nat.le_of_ble_eq_true rfl⟩ (PV.mk ⟨by show PQc _ P key C n (prs P key (d + 1) 5 o nt q); rw [prs_5, pce_f ⟨no_mk2a lok c1, no_nm2 lok c2 c83⟩ (fun _ => by omega) (fun _ => by omega)]; exact PSc.fl hps (by omega) q.1, Ex.up (Ex.rf σ) rfl⟩)
              · skip
                refine r_aload_n hX dX2_piece_127 rfl ?_
                refine r_callVV (As := []) (rest := []) hX (c_X2_step hA σ P (hps).1 q.2.2.1 (nxN q) (wwB q) (lok).2.2.1 (nxN_le _) (hps).2.1.1 (hps).2.1.2.2 (ww_nx (ok3 (sg_y3 c112)))) dX2_piece_128 cb_X2_41 (hA.1 105 (1, 0) rfl) rfl rfl ⟨by show _ ≤ 2 * (d + 1) + 10; omega, by show _ ≤ 50 * (d + 1) + 300; omega⟩ ⟨Nat.le_of_ble_eq_true rfl, Nat.le_of_ble_eq_true rfl⟩ (Nat.le_of_ble_eq_true rfl) (fun σ114 h115 => ?_)
                obtain ⟨hl116, hx117⟩ := h115
                have hp118 : PSc σ114 P key (nxq P q) C n := PSc.nx hps hx117 hl116
                have hlok119 := (lok).nx
                refine r_aload_n hX dX2_piece_131 rfl ?_
                refine r_iconst hX (nI 0) dX2_piece_132 rfl ?_
                refine r_iload_n hX dX2_piece_133 rfl ?_
                refine r_iconst hX (nI 1) dX2_piece_134 rfl ?_
                refine r_iaddN hX dX2_piece_135 ?_
                refine r_iload_n hX dX2_piece_136 rfl ?_
                have hmn1 := hlok119.2.1; have hmn2 := hlok119.2.2
                refine r_callVV (As := [.int (nI 0), .int (nI (o + 1)), .int (nI nt)]) (rest := []) hX (by rw [hl, hD]; exact hsubE (by omega) σ114 (nxq P q) C n hp118 hlok119.1 (by (try simp only [List.length_append, List.length_cons, List.length_nil]); omega)) dX2_piece_137 cb_X2_48 (hA.1 105 (1, 0) rfl) rfl rfl ⟨by show _ ≤ 2 * (d + 1) + 10; omega, by show _ ≤ 50 * (d + 1) + 300; omega⟩ ⟨Nat.le_of_ble_eq_true rfl, Nat.le_of_ble_eq_true rfl⟩ (Nat.le_of_ble_eq_true rfl) (fun σ120 h121 => ?_)
                obtain ⟨hq122, hx123⟩ := h121
                have hok124 := prs_ok P key d 0 (o + 1) nt (nxq P q) hlok119.1
                rcases hr125 : prs P key d 0 (o + 1) nt (nxq P q) with f126 | ⟨q127, c128, n129⟩
                · skip
                  rw [hr125] at hq122 hok124
                  have hq122 : FLc σ120 f126 := hq122
                  have hflf126 : f126 ≤ P.1 := hok124.2
                  refine r_aload_n hX dX2_piece_140 rfl ?_
                  refine r_callVV (As := []) (rest := []) hX (c_X2_closeB hA σ120 f126 hq122 (by omega)) dX2_piece_141 cb_X2_117 (hA.1 105 (1, 0) rfl) rfl rfl ⟨by show _ ≤ 2 * (d + 1) + 10; omega, by show _ ≤ 50 * (d + 1) + 300; omega⟩ ⟨Nat.le_of_ble_eq_true rfl, Nat.le_of_ble_eq_true rfl⟩ (Nat.le_of_ble_eq_true rfl) (fun σ130 h131 => ?_)
                  replace h131 := h131.symm
                  subst h131
                  refine r_goto hX dX2_piece_144 ?_
                  exact r_return hX hQ dX2_piece_155 ⟨Nat.le_of_ble_eq_true rfl, Nat.le_of_ble_eq_true rfl⟩ (PV.mk ⟨by show PQc _ P key C n (prs P key (d + 1) 5 o nt q); rw [prs_5, pce_o c112 (by omega), hr125]; exact hq122, (Ex.tr (Ex.tr (Ex.rf σ) (pXc_pYc hx117)) hx123)⟩)
                · skip
                  rw [hr125] at hq122 hok124
                  have hp132 : PSc σ120 P key q127 (C ++ c128) (n + n129) := hq122
                  have hl133 : Lok P q127 ∧ (nxq P q).1 + c128.length ≤ q127.1 ∧ (nxq P q).1 < q127.1 := hok124
                  have := hl133.1.2.1; have := hl133.1.2.2.1
                  refine r_aload_n hX dX2_piece_140 rfl ?_
                  refine r_callVV (As := []) (rest := []) hX (c_X2_close hA σ120 P key q127 (C ++ c128) (n + n129) hp132 hl133.1 (by (try simp only [List.length_append, List.length_cons, List.length_nil]); omega)) dX2_piece_141 cb_X2_117 (hA.1 105 (1, 0) rfl) rfl rfl ⟨by show _ ≤ 2 * (d + 1) + 10; omega, by show _ ≤ 50 * (d + 1) + 300; omega⟩ ⟨Nat.le_of_ble_eq_true rfl, Nat.le_of_ble_eq_true rfl⟩ (Nat.le_of_ble_eq_true rfl) (fun σ134 h135 => ?_)
                  obtain ⟨hp136, hx137⟩ := h135
                  refine r_goto hX dX2_piece_144 ?_
                  exact r_return hX hQ dX2_piece_155 ⟨Nat.le_of_ble_eq_true rfl, Nat.le_of_ble_eq_true rfl⟩ (PV.mk ⟨by show PQc _ P key C n (prs P key (d + 1) 5 o nt q); rw [prs_5, pce_o c112 (by omega), hr125]; exact close_fin hp136, (Ex.tr (Ex.tr (Ex.tr (Ex.rf σ) (pXc_pYc hx117)) hx123) hx137)⟩)
          · skip
            refine r_aload_n hX dX2_piece_90 rfl ?_
            refine r_callVV (As := []) (rest := []) hX (c_X2_step hA σ P (hps).1 q.2.2.1 (nxN q) (wwB q) (lok).2.2.1 (nxN_le _) (hps).2.1.1 (hps).2.1.2.2 (ww_nx (ok3 (sg_y3 c84)))) dX2_piece_91 cb_X2_41 (hA.1 105 (1, 0) rfl) rfl rfl ⟨by show _ ≤ 2 * (d + 1) + 10; omega, by show _ ≤ 50 * (d + 1) + 300; omega⟩ ⟨Nat.le_of_ble_eq_true rfl, Nat.le_of_ble_eq_true rfl⟩ (Nat.le_of_ble_eq_true rfl) (fun σ138 h139 => ?_)
            obtain ⟨hl140, hx141⟩ := h139
            have hp142 : PSc σ138 P key (nxq P q) C n := PSc.nx hps hx141 hl140
            have hlok143 := (lok).nx
            refine r_aload_n hX dX2_piece_94 rfl ?_
            refine r_iload_n hX dX2_piece_95 rfl ?_
            refine r_iload_n hX dX2_piece_96 rfl ?_
            refine r_iconst hX (nI 1) dX2_piece_97 rfl ?_
            refine r_iaddN hX dX2_piece_98 ?_
            have hmn1 := hlok143.2.1; have hmn2 := hlok143.2.2
            refine r_callVV (As := [.int (nI o), .int (nI (nt + 1))]) (rest := []) hX (by rw [hl, hD]; exact hsubP (by omega) σ138 (nxq P q) C n hp142 hlok143.1 (by (try simp only [List.length_append, List.length_cons, List.length_nil]); omega)) dX2_piece_99 cb_X2_93 (hA.1 105 (1, 0) rfl) rfl rfl ⟨by show _ ≤ 2 * (d + 1) + 10; omega, by show _ ≤ 50 * (d + 1) + 300; omega⟩ ⟨Nat.le_of_ble_eq_true rfl, Nat.le_of_ble_eq_true rfl⟩ (Nat.le_of_ble_eq_true rfl) (fun σ144 h145 => ?_)
            obtain ⟨hq146, hx147⟩ := h145
            have hok148 := prs_ok P key d 5 o (nt + 1) (nxq P q) hlok143.1
            rcases hr149 : prs P key d 5 o (nt + 1) (nxq P q) with f150 | ⟨q151, c152, n153⟩
            · skip
              rw [hr149] at hq146 hok148
              have hq146 : FLc σ144 f150 := hq146
              have hflf150 : f150 ≤ P.1 := hok148.2
              refine r_aload_n hX dX2_piece_102 rfl ?_
              refine r_sipush hX (nI 20033) dX2_piece_103 rfl ?_
              refine r_callVV (As := [.int (nI 20033)]) (rest := []) hX (c_X2_putB hA σ144 f150 hq146 (nI 20033)) dX2_piece_106 cb_X2_100 (hA.1 105 (1, 0) rfl) rfl rfl ⟨by show _ ≤ 2 * (d + 1) + 10; omega, by show _ ≤ 50 * (d + 1) + 300; omega⟩ ⟨Nat.le_of_ble_eq_true rfl, Nat.le_of_ble_eq_true rfl⟩ (Nat.le_of_ble_eq_true rfl) (fun σ154 h155 => ?_)
              obtain ⟨hb156, hx157⟩ := h155
              refine r_goto hX dX2_piece_109 ?_
              exact r_return hX hQ dX2_piece_155 ⟨Nat.le_of_ble_eq_true rfl, Nat.le_of_ble_eq_true rfl⟩ (PV.mk ⟨by show PQc _ P key C n (prs P key (d + 1) 5 o nt q); rw [prs_5, pce_b c84 (by omega), hr149]; exact hb156, (Ex.tr (Ex.tr (Ex.tr (Ex.rf σ) (pXc_pYc hx141)) hx147) hx157)⟩)
            · skip
              rw [hr149] at hq146 hok148
              have hp158 : PSc σ144 P key q151 (C ++ c152) (n + n153) := hq146
              have hl159 : Lok P q151 ∧ (nxq P q).1 + c152.length ≤ q151.1 ∧ (nxq P q).1 < q151.1 := hok148
              have := hl159.1.2.1; have := hl159.1.2.2.1
              refine r_aload_n hX dX2_piece_102 rfl ?_
              refine r_sipush hX (nI 20033) dX2_piece_103 rfl ?_
              refine r_callVV (As := [.int (nI 20033)]) (rest := []) hX (by rw [show nI 20033 = nI (tcd key 20000) from rfl]; exact c_X2_put hA σ144 P key q151 (C ++ c152) (n + n153) hp158 hl159.1 20000 (by (try simp only [List.length_append, List.length_cons, List.length_nil]); omega)) dX2_piece_106 cb_X2_100 (hA.1 105 (1, 0) rfl) rfl rfl ⟨by show _ ≤ 2 * (d + 1) + 10; omega, by show _ ≤ 50 * (d + 1) + 300; omega⟩ ⟨Nat.le_of_ble_eq_true rfl, Nat.le_of_ble_eq_true rfl⟩ (Nat.le_of_ble_eq_true rfl) (fun σ160 h161 => ?_)
              obtain ⟨hp162, hx163⟩ := h161
              refine r_goto hX dX2_piece_109 ?_
              exact r_return hX hQ dX2_piece_155 ⟨Nat.le_of_ble_eq_true rfl, Nat.le_of_ble_eq_true rfl⟩ (PV.mk ⟨by show PQc _ P key C n (prs P key (d + 1) 5 o nt q); rw [prs_5, pce_b c84 (by omega), hr149]; show PSc _ P key q151 (C ++ (c152 ++ [20000])) (n + n153); exact PSc.as hp162 (by simp only [List.append_assoc]) rfl, (Ex.tr (Ex.tr (Ex.tr (Ex.rf σ) (pXc_pYc hx141)) hx147) hx163)⟩)
      · skip
        refine r_aload_n hX dX2_piece_53 rfl ?_
        refine r_callVF (As := []) (rest := []) hX (by rw [hl, hD]; exact c_X2_nameOfNext J hJ hA σ P hps.1 q hps.2.1 lok key hkey hps.2.2.2.1 (let_rng lok h1q) (by omega)) dX2_piece_54 cb_X2_110 (hA.1 105 (1, 0) rfl) rfl rfl ⟨by show _ ≤ 2 * (d + 1) + 10; omega, by show _ ≤ 50 * (d + 1) + 300; omega⟩ ⟨Nat.le_of_ble_eq_true rfl, Nat.le_of_ble_eq_true rfl⟩ (Nat.le_of_ble_eq_true rfl) ?_
        by_cases hlt : ltr key (P.2 q.1 - 97) = true
        · skip
          rw [if_pos hlt]
          have hpl := plc_le key (P.2 q.1 - 97)
          refine r_ifN_lt hX dX2_piece_57 (by omega) ?_
          refine r_aload_n hX dX2_piece_60 rfl ?_
          refine r_sipush hX (nI 10000) dX2_piece_61 rfl ?_
          refine r_aload_n hX dX2_piece_64 rfl ?_
          refine r_callVF (As := []) (rest := [.int (nI 10000), .ref (L.1 105)]) hX (by rw [hl, hD]; exact c_X2_nameOfNext J hJ hA σ P hps.1 q hps.2.1 lok key hkey hps.2.2.2.1 (let_rng lok h1q) (by omega)) dX2_piece_65 cb_X2_110 (hA.1 105 (1, 0) rfl) rfl rfl ⟨by show _ ≤ 2 * (d + 1) + 10; omega, by show _ ≤ 50 * (d + 1) + 300; omega⟩ ⟨Nat.le_of_ble_eq_true rfl, Nat.le_of_ble_eq_true rfl⟩ (Nat.le_of_ble_eq_true rfl) ?_
          rw [if_pos hlt]
          refine r_iaddN hX dX2_piece_68 ?_
          refine r_callVV (As := [.int (nI (10000 + (plc key (P.2 q.1 - 97))))]) (rest := []) hX (by rw [show nI (10000 + (plc key (P.2 q.1 - 97))) = nI (tcd key (10000 + (P.2 q.1 - 97))) from (congrArg nI (show _ = tcd key (10000 + (P.2 q.1 - 97)) by rw [tcd_let (by omega) (by omega), Nat.add_sub_cancel_left]))]; exact c_X2_leaf hA σ P key q C n hps lok (10000 + (P.2 q.1 - 97)) (by omega) ((nx2 lok).mp c2).2) dX2_piece_69 cb_X2_107 (hA.1 105 (1, 0) rfl) rfl rfl ⟨by show _ ≤ 2 * (d + 1) + 10; omega, by show _ ≤ 50 * (d + 1) + 300; omega⟩ ⟨Nat.le_of_ble_eq_true rfl, Nat.le_of_ble_eq_true rfl⟩ (Nat.le_of_ble_eq_true rfl) (fun σ164 h165 => ?_)
          obtain ⟨hp166, hx167⟩ := h165
          refine r_goto hX dX2_piece_72 ?_
          exact r_return hX hQ dX2_piece_155 ⟨Nat.le_of_ble_eq_true rfl, Nat.le_of_ble_eq_true rfl⟩ (PV.mk ⟨by show PQc _ P key C n (prs P key (d + 1) 5 o nt q); rw [prs_5, pce_n (is_nm lok c2 c83 hlt)]; exact hp166, (Ex.tr (Ex.rf σ) hx167)⟩)
        · skip
          rw [if_neg hlt]
          have hpl := plc_le key (P.2 q.1 - 97)
          refine r_if_lt hX dX2_piece_57 (fun c168 => ?_) (fun c168 => absurd c168 (by decide))
          refine r_aload_n hX dX2_piece_75 rfl ?_
          refine r_bipush hX (nI 33) dX2_piece_76 rfl ?_
          refine r_callVF (As := [.int (nI 33)]) (rest := []) hX (c_X2_isMark hA σ P (hps).1 q (hps).2.1 lok 33 (by decide)) dX2_piece_78 cb_X2_113 (hA.1 105 (1, 0) rfl) rfl rfl ⟨by show _ ≤ 2 * (d + 1) + 10; omega, by show _ ≤ 50 * (d + 1) + 300; omega⟩ ⟨Nat.le_of_ble_eq_true rfl, Nat.le_of_ble_eq_true rfl⟩ (Nat.le_of_ble_eq_true rfl) ?_
          refine r_ifB_eq hX dX2_piece_81 (fun c169 => ?_) (fun c169 => ?_)
          · skip
            refine r_aload_n hX dX2_piece_112 rfl ?_
            refine r_bipush hX (nI 40) dX2_piece_113 rfl ?_
            refine r_callVF (As := [.int (nI 40)]) (rest := []) hX (c_X2_isMark hA σ P (hps).1 q (hps).2.1 lok 40 (by decide)) dX2_piece_115 cb_X2_113 (hA.1 105 (1, 0) rfl) rfl rfl ⟨by show _ ≤ 2 * (d + 1) + 10; omega, by show _ ≤ 50 * (d + 1) + 300; omega⟩ ⟨Nat.le_of_ble_eq_true rfl, Nat.le_of_ble_eq_true rfl⟩ (Nat.le_of_ble_eq_true rfl) ?_
            refine r_ifB_eq hX dX2_piece_118 (fun c170 => ?_) (fun c170 => ?_)
            · skip
              refine r_aload_n hX dX2_piece_147 rfl ?_
              refine r_aload_n hX dX2_piece_148 rfl ?_
              refine r_getIV hX dX2_piece_149 fl_X2_31 (hA.1 105 (1, 0) rfl) rfl (nI q.1) (hps).2.1.2.1 ?_
              refine r_putI hX dX2_piece_152 fl_X2_25 (hA.1 105 (1, 0) rfl) rfl rfl rfl rfl ?_
              exact r_return hX hQ dX2_piece_155 ⟨Nat.le_of_ble_eq_true rfl, Nat.le_of_ble_eq_true rfl⟩ (PV.mk ⟨by show PQc _ P key C n (prs P key (d + 1) 5 o nt q); rw [prs_5, pce_f ⟨no_mk2a lok c1, no_nm3 hlt⟩ (fun e => by rw [c169] at e; cases e) (fun e => by rw [c170] at e; cases e)]; exact PSc.fl hps (by omega) q.1, Ex.up (Ex.rf σ) rfl⟩)
            · skip
              refine r_iload_n hX dX2_piece_121 rfl ?_
              refine r_bipush hX (nI 8) dX2_piece_122 rfl ?_
              refine r_icmpN_ge hX dX2_piece_124 (by omega) (by decide) (fun c171 => ?_) (fun c171 => ?_)
              · skip
                refine r_aload_n hX dX2_piece_147 rfl ?_
                refine r_aload_n hX dX2_piece_148 rfl ?_
                refine r_getIV hX dX2_piece_149 fl_X2_31 (hA.1 105 (1, 0) rfl) rfl (nI q.1) (hps).2.1.2.1 ?_
                refine r_putI hX dX2_piece_152 fl_X2_25 (hA.1 105 (1, 0) rfl) rfl rfl rfl rfl ?_
                exact r_return hX hQ dX2_piece_155 ⟨Nat.le_of_ble_eq_true rfl, Nat.le_of_ble_eq_true rfl⟩ (PV.mk ⟨by show PQc _ P key C n (prs P key (d + 1) 5 o nt q); rw [prs_5, pce_f ⟨no_mk2a lok c1, no_nm3 hlt⟩ (fun e => by rw [c169] at e; cases e) (fun _ => by omega)]; exact PSc.fl hps (by omega) q.1, Ex.up (Ex.rf σ) rfl⟩)
              · skip
                refine r_aload_n hX dX2_piece_127 rfl ?_
                refine r_callVV (As := []) (rest := []) hX (c_X2_step hA σ P (hps).1 q.2.2.1 (nxN q) (wwB q) (lok).2.2.1 (nxN_le _) (hps).2.1.1 (hps).2.1.2.2 (ww_nx (ok3 (sg_y3 c170)))) dX2_piece_128 cb_X2_41 (hA.1 105 (1, 0) rfl) rfl rfl ⟨by show _ ≤ 2 * (d + 1) + 10; omega, by show _ ≤ 50 * (d + 1) + 300; omega⟩ ⟨Nat.le_of_ble_eq_true rfl, Nat.le_of_ble_eq_true rfl⟩ (Nat.le_of_ble_eq_true rfl) (fun σ172 h173 => ?_)
                obtain ⟨hl174, hx175⟩ := h173
                have hp176 : PSc σ172 P key (nxq P q) C n := PSc.nx hps hx175 hl174
                have hlok177 := (lok).nx
                refine r_aload_n hX dX2_piece_131 rfl ?_
                refine r_iconst hX (nI 0) dX2_piece_132 rfl ?_
                refine r_iload_n hX dX2_piece_133 rfl ?_
                refine r_iconst hX (nI 1) dX2_piece_134 rfl ?_
                refine r_iaddN hX dX2_piece_135 ?_
                refine r_iload_n hX dX2_piece_136 rfl ?_
                have hmn1 := hlok177.2.1; have hmn2 := hlok177.2.2
                refine r_callVV (As := [.int (nI 0), .int (nI (o + 1)), .int (nI nt)]) (rest := []) hX (by rw [hl, hD]; exact hsubE (by omega) σ172 (nxq P q) C n hp176 hlok177.1 (by (try simp only [List.length_append, List.length_cons, List.length_nil]); omega)) dX2_piece_137 cb_X2_48 (hA.1 105 (1, 0) rfl) rfl rfl ⟨by show _ ≤ 2 * (d + 1) + 10; omega, by show _ ≤ 50 * (d + 1) + 300; omega⟩ ⟨Nat.le_of_ble_eq_true rfl, Nat.le_of_ble_eq_true rfl⟩ (Nat.le_of_ble_eq_true rfl) (fun σ178 h179 => ?_)
                obtain ⟨hq180, hx181⟩ := h179
                have hok182 := prs_ok P key d 0 (o + 1) nt (nxq P q) hlok177.1
                rcases hr183 : prs P key d 0 (o + 1) nt (nxq P q) with f184 | ⟨q185, c186, n187⟩
                · skip
                  rw [hr183] at hq180 hok182
                  have hq180 : FLc σ178 f184 := hq180
                  have hflf184 : f184 ≤ P.1 := hok182.2
                  refine r_aload_n hX dX2_piece_140 rfl ?_
                  refine r_callVV (As := []) (rest := []) hX (c_X2_closeB hA σ178 f184 hq180 (by omega)) dX2_piece_141 cb_X2_117 (hA.1 105 (1, 0) rfl) rfl rfl ⟨by show _ ≤ 2 * (d + 1) + 10; omega, by show _ ≤ 50 * (d + 1) + 300; omega⟩ ⟨Nat.le_of_ble_eq_true rfl, Nat.le_of_ble_eq_true rfl⟩ (Nat.le_of_ble_eq_true rfl) (fun σ188 h189 => ?_)
                  replace h189 := h189.symm
                  subst h189
                  refine r_goto hX dX2_piece_144 ?_
                  exact r_return hX hQ dX2_piece_155 ⟨Nat.le_of_ble_eq_true rfl, Nat.le_of_ble_eq_true rfl⟩ (PV.mk ⟨by show PQc _ P key C n (prs P key (d + 1) 5 o nt q); rw [prs_5, pce_o c170 (by omega), hr183]; exact hq180, (Ex.tr (Ex.tr (Ex.rf σ) (pXc_pYc hx175)) hx181)⟩)
                · skip
                  rw [hr183] at hq180 hok182
                  have hp190 : PSc σ178 P key q185 (C ++ c186) (n + n187) := hq180
                  have hl191 : Lok P q185 ∧ (nxq P q).1 + c186.length ≤ q185.1 ∧ (nxq P q).1 < q185.1 := hok182
                  have := hl191.1.2.1; have := hl191.1.2.2.1
                  refine r_aload_n hX dX2_piece_140 rfl ?_
                  refine r_callVV (As := []) (rest := []) hX (c_X2_close hA σ178 P key q185 (C ++ c186) (n + n187) hp190 hl191.1 (by (try simp only [List.length_append, List.length_cons, List.length_nil]); omega)) dX2_piece_141 cb_X2_117 (hA.1 105 (1, 0) rfl) rfl rfl ⟨by show _ ≤ 2 * (d + 1) + 10; omega, by show _ ≤ 50 * (d + 1) + 300; omega⟩ ⟨Nat.le_of_ble_eq_true rfl, Nat.le_of_ble_eq_true rfl⟩ (Nat.le_of_ble_eq_true rfl) (fun σ192 h193 => ?_)
                  obtain ⟨hp194, hx195⟩ := h193
                  refine r_goto hX dX2_piece_144 ?_
                  exact r_return hX hQ dX2_piece_155 ⟨Nat.le_of_ble_eq_true rfl, Nat.le_of_ble_eq_true rfl⟩ (PV.mk ⟨by show PQc _ P key C n (prs P key (d + 1) 5 o nt q); rw [prs_5, pce_o c170 (by omega), hr183]; exact close_fin hp194, (Ex.tr (Ex.tr (Ex.tr (Ex.rf σ) (pXc_pYc hx175)) hx181) hx195)⟩)
          · skip
            refine r_iload_n hX dX2_piece_84 rfl ?_
            refine r_bipush hX (nI 8) dX2_piece_85 rfl ?_
            refine r_icmpN_ge hX dX2_piece_87 (by omega) (by decide) (fun c196 => ?_) (fun c196 => ?_)
            · skip
              refine r_aload_n hX dX2_piece_112 rfl ?_
              refine r_bipush hX (nI 40) dX2_piece_113 rfl ?_
              refine r_callVF (As := [.int (nI 40)]) (rest := []) hX (c_X2_isMark hA σ P (hps).1 q (hps).2.1 lok 40 (by decide)) dX2_piece_115 cb_X2_113 (hA.1 105 (1, 0) rfl) rfl rfl ⟨by show _ ≤ 2 * (d + 1) + 10; omega, by show _ ≤ 50 * (d + 1) + 300; omega⟩ ⟨Nat.le_of_ble_eq_true rfl, Nat.le_of_ble_eq_true rfl⟩ (Nat.le_of_ble_eq_true rfl) ?_
              refine r_ifB_eq hX dX2_piece_118 (fun c197 => ?_) (fun c197 => ?_)
              · skip
                refine r_aload_n hX dX2_piece_147 rfl ?_
                refine r_aload_n hX dX2_piece_148 rfl ?_
                refine r_getIV hX dX2_piece_149 fl_X2_31 (hA.1 105 (1, 0) rfl) rfl (nI q.1) (hps).2.1.2.1 ?_
                refine r_putI hX dX2_piece_152 fl_X2_25 (hA.1 105 (1, 0) rfl) rfl rfl rfl rfl ?_
                exact r_return hX hQ dX2_piece_155 ⟨Nat.le_of_ble_eq_true rfl, Nat.le_of_ble_eq_true rfl⟩ (PV.mk ⟨by show PQc _ P key C n (prs P key (d + 1) 5 o nt q); rw [prs_5, pce_f ⟨no_mk2a lok c1, no_nm3 hlt⟩ (fun _ => by omega) (fun e => by rw [c197] at e; cases e)]; exact PSc.fl hps (by omega) q.1, Ex.up (Ex.rf σ) rfl⟩)
              · skip
                refine r_iload_n hX dX2_piece_121 rfl ?_
                refine r_bipush hX (nI 8) dX2_piece_122 rfl ?_
                refine r_icmpN_ge hX dX2_piece_124 (by omega) (by decide) (fun c198 => ?_) (fun c198 => ?_)
                · skip
                  refine r_aload_n hX dX2_piece_147 rfl ?_
                  refine r_aload_n hX dX2_piece_148 rfl ?_
                  refine r_getIV hX dX2_piece_149 fl_X2_31 (hA.1 105 (1, 0) rfl) rfl (nI q.1) (hps).2.1.2.1 ?_
                  refine r_putI hX dX2_piece_152 fl_X2_25 (hA.1 105 (1, 0) rfl) rfl rfl rfl rfl ?_
                  exact r_return hX hQ dX2_piece_155 ⟨Nat.le_of_ble_eq_true rfl, Nat.le_of_ble_eq_true rfl⟩ (PV.mk ⟨by show PQc _ P key C n (prs P key (d + 1) 5 o nt q); rw [prs_5, pce_f ⟨no_mk2a lok c1, no_nm3 hlt⟩ (fun _ => by omega) (fun _ => by omega)]; exact PSc.fl hps (by omega) q.1, Ex.up (Ex.rf σ) rfl⟩)
                · skip
                  refine r_aload_n hX dX2_piece_127 rfl ?_
                  refine r_callVV (As := []) (rest := []) hX (c_X2_step hA σ P (hps).1 q.2.2.1 (nxN q) (wwB q) (lok).2.2.1 (nxN_le _) (hps).2.1.1 (hps).2.1.2.2 (ww_nx (ok3 (sg_y3 c197)))) dX2_piece_128 cb_X2_41 (hA.1 105 (1, 0) rfl) rfl rfl ⟨by show _ ≤ 2 * (d + 1) + 10; omega, by show _ ≤ 50 * (d + 1) + 300; omega⟩ ⟨Nat.le_of_ble_eq_true rfl, Nat.le_of_ble_eq_true rfl⟩ (Nat.le_of_ble_eq_true rfl) (fun σ199 h200 => ?_)
                  obtain ⟨hl201, hx202⟩ := h200
                  have hp203 : PSc σ199 P key (nxq P q) C n := PSc.nx hps hx202 hl201
                  have hlok204 := (lok).nx
                  refine r_aload_n hX dX2_piece_131 rfl ?_
                  refine r_iconst hX (nI 0) dX2_piece_132 rfl ?_
                  refine r_iload_n hX dX2_piece_133 rfl ?_
                  refine r_iconst hX (nI 1) dX2_piece_134 rfl ?_
                  refine r_iaddN hX dX2_piece_135 ?_
                  refine r_iload_n hX dX2_piece_136 rfl ?_
                  have hmn1 := hlok204.2.1; have hmn2 := hlok204.2.2
                  refine r_callVV (As := [.int (nI 0), .int (nI (o + 1)), .int (nI nt)]) (rest := []) hX (by rw [hl, hD]; exact hsubE (by omega) σ199 (nxq P q) C n hp203 hlok204.1 (by (try simp only [List.length_append, List.length_cons, List.length_nil]); omega)) dX2_piece_137 cb_X2_48 (hA.1 105 (1, 0) rfl) rfl rfl ⟨by show _ ≤ 2 * (d + 1) + 10; omega, by show _ ≤ 50 * (d + 1) + 300; omega⟩ ⟨Nat.le_of_ble_eq_true rfl, Nat.le_of_ble_eq_true rfl⟩ (Nat.le_of_ble_eq_true rfl) (fun σ205 h206 => ?_)
                  obtain ⟨hq207, hx208⟩ := h206
                  have hok209 := prs_ok P key d 0 (o + 1) nt (nxq P q) hlok204.1
                  rcases hr210 : prs P key d 0 (o + 1) nt (nxq P q) with f211 | ⟨q212, c213, n214⟩
                  · skip
                    rw [hr210] at hq207 hok209
                    have hq207 : FLc σ205 f211 := hq207
                    have hflf211 : f211 ≤ P.1 := hok209.2
                    refine r_aload_n hX dX2_piece_140 rfl ?_
                    refine r_callVV (As := []) (rest := []) hX (c_X2_closeB hA σ205 f211 hq207 (by omega)) dX2_piece_141 cb_X2_117 (hA.1 105 (1, 0) rfl) rfl rfl ⟨by show _ ≤ 2 * (d + 1) + 10; omega, by show _ ≤ 50 * (d + 1) + 300; omega⟩ ⟨Nat.le_of_ble_eq_true rfl, Nat.le_of_ble_eq_true rfl⟩ (Nat.le_of_ble_eq_true rfl) (fun σ215 h216 => ?_)
                    replace h216 := h216.symm
                    subst h216
                    refine r_goto hX dX2_piece_144 ?_
                    exact r_return hX hQ dX2_piece_155 ⟨Nat.le_of_ble_eq_true rfl, Nat.le_of_ble_eq_true rfl⟩ (PV.mk ⟨by show PQc _ P key C n (prs P key (d + 1) 5 o nt q); rw [prs_5, pce_o c197 (by omega), hr210]; exact hq207, (Ex.tr (Ex.tr (Ex.rf σ) (pXc_pYc hx202)) hx208)⟩)
                  · skip
                    rw [hr210] at hq207 hok209
                    have hp217 : PSc σ205 P key q212 (C ++ c213) (n + n214) := hq207
                    have hl218 : Lok P q212 ∧ (nxq P q).1 + c213.length ≤ q212.1 ∧ (nxq P q).1 < q212.1 := hok209
                    have := hl218.1.2.1; have := hl218.1.2.2.1
                    refine r_aload_n hX dX2_piece_140 rfl ?_
                    refine r_callVV (As := []) (rest := []) hX (c_X2_close hA σ205 P key q212 (C ++ c213) (n + n214) hp217 hl218.1 (by (try simp only [List.length_append, List.length_cons, List.length_nil]); omega)) dX2_piece_141 cb_X2_117 (hA.1 105 (1, 0) rfl) rfl rfl ⟨by show _ ≤ 2 * (d + 1) + 10; omega, by show _ ≤ 50 * (d + 1) + 300; omega⟩ ⟨Nat.le_of_ble_eq_true rfl, Nat.le_of_ble_eq_true rfl⟩ (Nat.le_of_ble_eq_true rfl) (fun σ219 h220 => ?_)
                    obtain ⟨hp221, hx222⟩ := h220
                    refine r_goto hX dX2_piece_144 ?_
                    exact r_return hX hQ dX2_piece_155 ⟨Nat.le_of_ble_eq_true rfl, Nat.le_of_ble_eq_true rfl⟩ (PV.mk ⟨by show PQc _ P key C n (prs P key (d + 1) 5 o nt q); rw [prs_5, pce_o c197 (by omega), hr210]; exact close_fin hp221, (Ex.tr (Ex.tr (Ex.tr (Ex.rf σ) (pXc_pYc hx202)) hx208) hx222)⟩)
            · skip
              refine r_aload_n hX dX2_piece_90 rfl ?_
              refine r_callVV (As := []) (rest := []) hX (c_X2_step hA σ P (hps).1 q.2.2.1 (nxN q) (wwB q) (lok).2.2.1 (nxN_le _) (hps).2.1.1 (hps).2.1.2.2 (ww_nx (ok3 (sg_y3 c169)))) dX2_piece_91 cb_X2_41 (hA.1 105 (1, 0) rfl) rfl rfl ⟨by show _ ≤ 2 * (d + 1) + 10; omega, by show _ ≤ 50 * (d + 1) + 300; omega⟩ ⟨Nat.le_of_ble_eq_true rfl, Nat.le_of_ble_eq_true rfl⟩ (Nat.le_of_ble_eq_true rfl) (fun σ223 h224 => ?_)
              obtain ⟨hl225, hx226⟩ := h224
              have hp227 : PSc σ223 P key (nxq P q) C n := PSc.nx hps hx226 hl225
              have hlok228 := (lok).nx
              refine r_aload_n hX dX2_piece_94 rfl ?_
              refine r_iload_n hX dX2_piece_95 rfl ?_
              refine r_iload_n hX dX2_piece_96 rfl ?_
              refine r_iconst hX (nI 1) dX2_piece_97 rfl ?_
              refine r_iaddN hX dX2_piece_98 ?_
              have hmn1 := hlok228.2.1; have hmn2 := hlok228.2.2
              refine r_callVV (As := [.int (nI o), .int (nI (nt + 1))]) (rest := []) hX (by rw [hl, hD]; exact hsubP (by omega) σ223 (nxq P q) C n hp227 hlok228.1 (by (try simp only [List.length_append, List.length_cons, List.length_nil]); omega)) dX2_piece_99 cb_X2_93 (hA.1 105 (1, 0) rfl) rfl rfl ⟨by show _ ≤ 2 * (d + 1) + 10; omega, by show _ ≤ 50 * (d + 1) + 300; omega⟩ ⟨Nat.le_of_ble_eq_true rfl, Nat.le_of_ble_eq_true rfl⟩ (Nat.le_of_ble_eq_true rfl) (fun σ229 h230 => ?_)
              obtain ⟨hq231, hx232⟩ := h230
              have hok233 := prs_ok P key d 5 o (nt + 1) (nxq P q) hlok228.1
              rcases hr234 : prs P key d 5 o (nt + 1) (nxq P q) with f235 | ⟨q236, c237, n238⟩
              · skip
                rw [hr234] at hq231 hok233
                have hq231 : FLc σ229 f235 := hq231
                have hflf235 : f235 ≤ P.1 := hok233.2
                refine r_aload_n hX dX2_piece_102 rfl ?_
                refine r_sipush hX (nI 20033) dX2_piece_103 rfl ?_
                refine r_callVV (As := [.int (nI 20033)]) (rest := []) hX (c_X2_putB hA σ229 f235 hq231 (nI 20033)) dX2_piece_106 cb_X2_100 (hA.1 105 (1, 0) rfl) rfl rfl ⟨by show _ ≤ 2 * (d + 1) + 10; omega, by show _ ≤ 50 * (d + 1) + 300; omega⟩ ⟨Nat.le_of_ble_eq_true rfl, Nat.le_of_ble_eq_true rfl⟩ (Nat.le_of_ble_eq_true rfl) (fun σ239 h240 => ?_)
                obtain ⟨hb241, hx242⟩ := h240
                refine r_goto hX dX2_piece_109 ?_
                exact r_return hX hQ dX2_piece_155 ⟨Nat.le_of_ble_eq_true rfl, Nat.le_of_ble_eq_true rfl⟩ (PV.mk ⟨by show PQc _ P key C n (prs P key (d + 1) 5 o nt q); rw [prs_5, pce_b c169 (by omega), hr234]; exact hb241, (Ex.tr (Ex.tr (Ex.tr (Ex.rf σ) (pXc_pYc hx226)) hx232) hx242)⟩)
              · skip
                rw [hr234] at hq231 hok233
                have hp243 : PSc σ229 P key q236 (C ++ c237) (n + n238) := hq231
                have hl244 : Lok P q236 ∧ (nxq P q).1 + c237.length ≤ q236.1 ∧ (nxq P q).1 < q236.1 := hok233
                have := hl244.1.2.1; have := hl244.1.2.2.1
                refine r_aload_n hX dX2_piece_102 rfl ?_
                refine r_sipush hX (nI 20033) dX2_piece_103 rfl ?_
                refine r_callVV (As := [.int (nI 20033)]) (rest := []) hX (by rw [show nI 20033 = nI (tcd key 20000) from rfl]; exact c_X2_put hA σ229 P key q236 (C ++ c237) (n + n238) hp243 hl244.1 20000 (by (try simp only [List.length_append, List.length_cons, List.length_nil]); omega)) dX2_piece_106 cb_X2_100 (hA.1 105 (1, 0) rfl) rfl rfl ⟨by show _ ≤ 2 * (d + 1) + 10; omega, by show _ ≤ 50 * (d + 1) + 300; omega⟩ ⟨Nat.le_of_ble_eq_true rfl, Nat.le_of_ble_eq_true rfl⟩ (Nat.le_of_ble_eq_true rfl) (fun σ245 h246 => ?_)
                obtain ⟨hp247, hx248⟩ := h246
                refine r_goto hX dX2_piece_109 ?_
                exact r_return hX hQ dX2_piece_155 ⟨Nat.le_of_ble_eq_true rfl, Nat.le_of_ble_eq_true rfl⟩ (PV.mk ⟨by show PQc _ P key C n (prs P key (d + 1) 5 o nt q); rw [prs_5, pce_b c169 (by omega), hr234]; show PSc _ P key q236 (C ++ (c237 ++ [20000])) (n + n238); exact PSc.as hp247 (by simp only [List.append_assoc]) rfl, (Ex.tr (Ex.tr (Ex.tr (Ex.rf σ) (pXc_pYc hx226)) hx232) hx248)⟩)
  · skip
    refine r_aload_n hX dX2_piece_8 rfl ?_
    refine r_getIV hX dX2_piece_9 fl_X2_34 (hA.1 105 (1, 0) rfl) rfl (nI q.2.2.1) (hps).2.1.2.2 ?_
    refine r_aload_n hX dX2_piece_12 rfl ?_
    refine r_getIV hX dX2_piece_13 fl_X2_31 (hA.1 105 (1, 0) rfl) rfl (nI q.1) (hps).2.1.2.1 ?_
    refine r_isubN hX dX2_piece_16 (by omega) ?_
    refine r_iconst hX (nI 4) dX2_piece_17 rfl ?_
    refine r_icmpN_gt hX dX2_piece_18 (by omega) (by decide) (fun c249 => ?_) (fun c249 => ?_)
    · skip
      refine r_aload_n hX dX2_piece_32 rfl ?_
      refine r_getIV hX dX2_piece_33 fl_X2_28 (hA.1 105 (1, 0) rfl) rfl (nI (nxN q)) (hps).2.1.1 ?_
      refine r_iconst hX (nI 2) dX2_piece_36 rfl ?_
      refine r_icmpN_ne hX dX2_piece_37 (by omega) (by decide) (fun c250 => ?_) (fun c250 => absurd c250 (by omega))
      refine r_aload_n hX dX2_piece_75 rfl ?_
      refine r_bipush hX (nI 33) dX2_piece_76 rfl ?_
      refine r_callVF (As := [.int (nI 33)]) (rest := []) hX (c_X2_isMark hA σ P (hps).1 q (hps).2.1 lok 33 (by decide)) dX2_piece_78 cb_X2_113 (hA.1 105 (1, 0) rfl) rfl rfl ⟨by show _ ≤ 2 * (d + 1) + 10; omega, by show _ ≤ 50 * (d + 1) + 300; omega⟩ ⟨Nat.le_of_ble_eq_true rfl, Nat.le_of_ble_eq_true rfl⟩ (Nat.le_of_ble_eq_true rfl) ?_
      refine r_ifB_eq hX dX2_piece_81 (fun c251 => ?_) (fun c251 => ?_)
      · skip
        refine r_aload_n hX dX2_piece_112 rfl ?_
        refine r_bipush hX (nI 40) dX2_piece_113 rfl ?_
        refine r_callVF (As := [.int (nI 40)]) (rest := []) hX (c_X2_isMark hA σ P (hps).1 q (hps).2.1 lok 40 (by decide)) dX2_piece_115 cb_X2_113 (hA.1 105 (1, 0) rfl) rfl rfl ⟨by show _ ≤ 2 * (d + 1) + 10; omega, by show _ ≤ 50 * (d + 1) + 300; omega⟩ ⟨Nat.le_of_ble_eq_true rfl, Nat.le_of_ble_eq_true rfl⟩ (Nat.le_of_ble_eq_true rfl) ?_
        refine r_ifB_eq hX dX2_piece_118 (fun c252 => ?_) (fun c252 => ?_)
        · skip
          refine r_aload_n hX dX2_piece_147 rfl ?_
          refine r_aload_n hX dX2_piece_148 rfl ?_
          refine r_getIV hX dX2_piece_149 fl_X2_31 (hA.1 105 (1, 0) rfl) rfl (nI q.1) (hps).2.1.2.1 ?_
          refine r_putI hX dX2_piece_152 fl_X2_25 (hA.1 105 (1, 0) rfl) rfl rfl rfl rfl ?_
          exact r_return hX hQ dX2_piece_155 ⟨Nat.le_of_ble_eq_true rfl, Nat.le_of_ble_eq_true rfl⟩ (PV.mk ⟨by show PQc _ P key C n (prs P key (d + 1) 5 o nt q); rw [prs_5, pce_f ⟨no_mk2b c249, no_nm1 lok c250⟩ (fun e => by rw [c251] at e; cases e) (fun e => by rw [c252] at e; cases e)]; exact PSc.fl hps (by omega) q.1, Ex.up (Ex.rf σ) rfl⟩)
        · skip
          refine r_iload_n hX dX2_piece_121 rfl ?_
          refine r_bipush hX (nI 8) dX2_piece_122 rfl ?_
          refine r_icmpN_ge hX dX2_piece_124 (by omega) (by decide) (fun c253 => ?_) (fun c253 => ?_)
          · skip
            refine r_aload_n hX dX2_piece_147 rfl ?_
            refine r_aload_n hX dX2_piece_148 rfl ?_
            refine r_getIV hX dX2_piece_149 fl_X2_31 (hA.1 105 (1, 0) rfl) rfl (nI q.1) (hps).2.1.2.1 ?_
            refine r_putI hX dX2_piece_152 fl_X2_25 (hA.1 105 (1, 0) rfl) rfl rfl rfl rfl ?_
            exact r_return hX hQ dX2_piece_155 ⟨Nat.le_of_ble_eq_true rfl, Nat.le_of_ble_eq_true rfl⟩ (PV.mk ⟨by show PQc _ P key C n (prs P key (d + 1) 5 o nt q); rw [prs_5, pce_f ⟨no_mk2b c249, no_nm1 lok c250⟩ (fun e => by rw [c251] at e; cases e) (fun _ => by omega)]; exact PSc.fl hps (by omega) q.1, Ex.up (Ex.rf σ) rfl⟩)
          · skip
            refine r_aload_n hX dX2_piece_127 rfl ?_
            refine r_callVV (As := []) (rest := []) hX (c_X2_step hA σ P (hps).1 q.2.2.1 (nxN q) (wwB q) (lok).2.2.1 (nxN_le _) (hps).2.1.1 (hps).2.1.2.2 (ww_nx (ok3 (sg_y3 c252)))) dX2_piece_128 cb_X2_41 (hA.1 105 (1, 0) rfl) rfl rfl ⟨by show _ ≤ 2 * (d + 1) + 10; omega, by show _ ≤ 50 * (d + 1) + 300; omega⟩ ⟨Nat.le_of_ble_eq_true rfl, Nat.le_of_ble_eq_true rfl⟩ (Nat.le_of_ble_eq_true rfl) (fun σ254 h255 => ?_)
            obtain ⟨hl256, hx257⟩ := h255
            have hp258 : PSc σ254 P key (nxq P q) C n := PSc.nx hps hx257 hl256
            have hlok259 := (lok).nx
            refine r_aload_n hX dX2_piece_131 rfl ?_
            refine r_iconst hX (nI 0) dX2_piece_132 rfl ?_
            refine r_iload_n hX dX2_piece_133 rfl ?_
            refine r_iconst hX (nI 1) dX2_piece_134 rfl ?_
            refine r_iaddN hX dX2_piece_135 ?_
            refine r_iload_n hX dX2_piece_136 rfl ?_
            have hmn1 := hlok259.2.1; have hmn2 := hlok259.2.2
            refine r_callVV (As := [.int (nI 0), .int (nI (o + 1)), .int (nI nt)]) (rest := []) hX (by rw [hl, hD]; exact hsubE (by omega) σ254 (nxq P q) C n hp258 hlok259.1 (by (try simp only [List.length_append, List.length_cons, List.length_nil]); omega)) dX2_piece_137 cb_X2_48 (hA.1 105 (1, 0) rfl) rfl rfl ⟨by show _ ≤ 2 * (d + 1) + 10; omega, by show _ ≤ 50 * (d + 1) + 300; omega⟩ ⟨Nat.le_of_ble_eq_true rfl, Nat.le_of_ble_eq_true rfl⟩ (Nat.le_of_ble_eq_true rfl) (fun σ260 h261 => ?_)
            obtain ⟨hq262, hx263⟩ := h261
            have hok264 := prs_ok P key d 0 (o + 1) nt (nxq P q) hlok259.1
            rcases hr265 : prs P key d 0 (o + 1) nt (nxq P q) with f266 | ⟨q267, c268, n269⟩
            · skip
              rw [hr265] at hq262 hok264
              have hq262 : FLc σ260 f266 := hq262
              have hflf266 : f266 ≤ P.1 := hok264.2
              refine r_aload_n hX dX2_piece_140 rfl ?_
              refine r_callVV (As := []) (rest := []) hX (c_X2_closeB hA σ260 f266 hq262 (by omega)) dX2_piece_141 cb_X2_117 (hA.1 105 (1, 0) rfl) rfl rfl ⟨by show _ ≤ 2 * (d + 1) + 10; omega, by show _ ≤ 50 * (d + 1) + 300; omega⟩ ⟨Nat.le_of_ble_eq_true rfl, Nat.le_of_ble_eq_true rfl⟩ (Nat.le_of_ble_eq_true rfl) (fun σ270 h271 => ?_)
              replace h271 := h271.symm
              subst h271
              refine r_goto hX dX2_piece_144 ?_
              exact r_return hX hQ dX2_piece_155 ⟨Nat.le_of_ble_eq_true rfl, Nat.le_of_ble_eq_true rfl⟩ (PV.mk ⟨by show PQc _ P key C n (prs P key (d + 1) 5 o nt q); rw [prs_5, pce_o c252 (by omega), hr265]; exact hq262, (Ex.tr (Ex.tr (Ex.rf σ) (pXc_pYc hx257)) hx263)⟩)
            · skip
              rw [hr265] at hq262 hok264
              have hp272 : PSc σ260 P key q267 (C ++ c268) (n + n269) := hq262
              have hl273 : Lok P q267 ∧ (nxq P q).1 + c268.length ≤ q267.1 ∧ (nxq P q).1 < q267.1 := hok264
              have := hl273.1.2.1; have := hl273.1.2.2.1
              refine r_aload_n hX dX2_piece_140 rfl ?_
              refine r_callVV (As := []) (rest := []) hX (c_X2_close hA σ260 P key q267 (C ++ c268) (n + n269) hp272 hl273.1 (by (try simp only [List.length_append, List.length_cons, List.length_nil]); omega)) dX2_piece_141 cb_X2_117 (hA.1 105 (1, 0) rfl) rfl rfl ⟨by show _ ≤ 2 * (d + 1) + 10; omega, by show _ ≤ 50 * (d + 1) + 300; omega⟩ ⟨Nat.le_of_ble_eq_true rfl, Nat.le_of_ble_eq_true rfl⟩ (Nat.le_of_ble_eq_true rfl) (fun σ274 h275 => ?_)
              obtain ⟨hp276, hx277⟩ := h275
              refine r_goto hX dX2_piece_144 ?_
              exact r_return hX hQ dX2_piece_155 ⟨Nat.le_of_ble_eq_true rfl, Nat.le_of_ble_eq_true rfl⟩ (PV.mk ⟨by show PQc _ P key C n (prs P key (d + 1) 5 o nt q); rw [prs_5, pce_o c252 (by omega), hr265]; exact close_fin hp276, (Ex.tr (Ex.tr (Ex.tr (Ex.rf σ) (pXc_pYc hx257)) hx263) hx277)⟩)
      · skip
        refine r_iload_n hX dX2_piece_84 rfl ?_
        refine r_bipush hX (nI 8) dX2_piece_85 rfl ?_
        refine r_icmpN_ge hX dX2_piece_87 (by omega) (by decide) (fun c278 => ?_) (fun c278 => ?_)
        · skip
          refine r_aload_n hX dX2_piece_112 rfl ?_
          refine r_bipush hX (nI 40) dX2_piece_113 rfl ?_
          refine r_callVF (As := [.int (nI 40)]) (rest := []) hX (c_X2_isMark hA σ P (hps).1 q (hps).2.1 lok 40 (by decide)) dX2_piece_115 cb_X2_113 (hA.1 105 (1, 0) rfl) rfl rfl ⟨by show _ ≤ 2 * (d + 1) + 10; omega, by show _ ≤ 50 * (d + 1) + 300; omega⟩ ⟨Nat.le_of_ble_eq_true rfl, Nat.le_of_ble_eq_true rfl⟩ (Nat.le_of_ble_eq_true rfl) ?_
          refine r_ifB_eq hX dX2_piece_118 (fun c279 => ?_) (fun c279 => ?_)
          · skip
            refine r_aload_n hX dX2_piece_147 rfl ?_
            refine r_aload_n hX dX2_piece_148 rfl ?_
            refine r_getIV hX dX2_piece_149 fl_X2_31 (hA.1 105 (1, 0) rfl) rfl (nI q.1) (hps).2.1.2.1 ?_
            refine r_putI hX dX2_piece_152 fl_X2_25 (hA.1 105 (1, 0) rfl) rfl rfl rfl rfl ?_
            exact r_return hX hQ dX2_piece_155 ⟨Nat.le_of_ble_eq_true rfl, Nat.le_of_ble_eq_true rfl⟩ (PV.mk ⟨by show PQc _ P key C n (prs P key (d + 1) 5 o nt q); rw [prs_5, pce_f ⟨no_mk2b c249, no_nm1 lok c250⟩ (fun _ => by omega) (fun e => by rw [c279] at e; cases e)]; exact PSc.fl hps (by omega) q.1, Ex.up (Ex.rf σ) rfl⟩)
          · skip
            refine r_iload_n hX dX2_piece_121 rfl ?_
            refine r_bipush hX (nI 8) dX2_piece_122 rfl ?_
            refine r_icmpN_ge hX dX2_piece_124 (by omega) (by decide) (fun c280 => ?_) (fun c280 => ?_)
            · skip
              refine r_aload_n hX dX2_piece_147 rfl ?_
              refine r_aload_n hX dX2_piece_148 rfl ?_
              refine r_getIV hX dX2_piece_149 fl_X2_31 (hA.1 105 (1, 0) rfl) rfl (nI q.1) (hps).2.1.2.1 ?_
              refine r_putI hX dX2_piece_152 fl_X2_25 (hA.1 105 (1, 0) rfl) rfl rfl rfl rfl ?_
              exact r_return hX hQ dX2_piece_155 ⟨Nat.le_of_ble_eq_true rfl, Nat.le_of_ble_eq_true rfl⟩ (PV.mk ⟨by show PQc _ P key C n (prs P key (d + 1) 5 o nt q); rw [prs_5, pce_f ⟨no_mk2b c249, no_nm1 lok c250⟩ (fun _ => by omega) (fun _ => by omega)]; exact PSc.fl hps (by omega) q.1, Ex.up (Ex.rf σ) rfl⟩)
            · skip
              refine r_aload_n hX dX2_piece_127 rfl ?_
              refine r_callVV (As := []) (rest := []) hX (c_X2_step hA σ P (hps).1 q.2.2.1 (nxN q) (wwB q) (lok).2.2.1 (nxN_le _) (hps).2.1.1 (hps).2.1.2.2 (ww_nx (ok3 (sg_y3 c279)))) dX2_piece_128 cb_X2_41 (hA.1 105 (1, 0) rfl) rfl rfl ⟨by show _ ≤ 2 * (d + 1) + 10; omega, by show _ ≤ 50 * (d + 1) + 300; omega⟩ ⟨Nat.le_of_ble_eq_true rfl, Nat.le_of_ble_eq_true rfl⟩ (Nat.le_of_ble_eq_true rfl) (fun σ281 h282 => ?_)
              obtain ⟨hl283, hx284⟩ := h282
              have hp285 : PSc σ281 P key (nxq P q) C n := PSc.nx hps hx284 hl283
              have hlok286 := (lok).nx
              refine r_aload_n hX dX2_piece_131 rfl ?_
              refine r_iconst hX (nI 0) dX2_piece_132 rfl ?_
              refine r_iload_n hX dX2_piece_133 rfl ?_
              refine r_iconst hX (nI 1) dX2_piece_134 rfl ?_
              refine r_iaddN hX dX2_piece_135 ?_
              refine r_iload_n hX dX2_piece_136 rfl ?_
              have hmn1 := hlok286.2.1; have hmn2 := hlok286.2.2
              refine r_callVV (As := [.int (nI 0), .int (nI (o + 1)), .int (nI nt)]) (rest := []) hX (by rw [hl, hD]; exact hsubE (by omega) σ281 (nxq P q) C n hp285 hlok286.1 (by (try simp only [List.length_append, List.length_cons, List.length_nil]); omega)) dX2_piece_137 cb_X2_48 (hA.1 105 (1, 0) rfl) rfl rfl ⟨by show _ ≤ 2 * (d + 1) + 10; omega, by show _ ≤ 50 * (d + 1) + 300; omega⟩ ⟨Nat.le_of_ble_eq_true rfl, Nat.le_of_ble_eq_true rfl⟩ (Nat.le_of_ble_eq_true rfl) (fun σ287 h288 => ?_)
              obtain ⟨hq289, hx290⟩ := h288
              have hok291 := prs_ok P key d 0 (o + 1) nt (nxq P q) hlok286.1
              rcases hr292 : prs P key d 0 (o + 1) nt (nxq P q) with f293 | ⟨q294, c295, n296⟩
              · skip
                rw [hr292] at hq289 hok291
                have hq289 : FLc σ287 f293 := hq289
                have hflf293 : f293 ≤ P.1 := hok291.2
                refine r_aload_n hX dX2_piece_140 rfl ?_
                refine r_callVV (As := []) (rest := []) hX (c_X2_closeB hA σ287 f293 hq289 (by omega)) dX2_piece_141 cb_X2_117 (hA.1 105 (1, 0) rfl) rfl rfl ⟨by show _ ≤ 2 * (d + 1) + 10; omega, by show _ ≤ 50 * (d + 1) + 300; omega⟩ ⟨Nat.le_of_ble_eq_true rfl, Nat.le_of_ble_eq_true rfl⟩ (Nat.le_of_ble_eq_true rfl) (fun σ297 h298 => ?_)
                replace h298 := h298.symm
                subst h298
                refine r_goto hX dX2_piece_144 ?_
                exact r_return hX hQ dX2_piece_155 ⟨Nat.le_of_ble_eq_true rfl, Nat.le_of_ble_eq_true rfl⟩ (PV.mk ⟨by show PQc _ P key C n (prs P key (d + 1) 5 o nt q); rw [prs_5, pce_o c279 (by omega), hr292]; exact hq289, (Ex.tr (Ex.tr (Ex.rf σ) (pXc_pYc hx284)) hx290)⟩)
              · skip
                rw [hr292] at hq289 hok291
                have hp299 : PSc σ287 P key q294 (C ++ c295) (n + n296) := hq289
                have hl300 : Lok P q294 ∧ (nxq P q).1 + c295.length ≤ q294.1 ∧ (nxq P q).1 < q294.1 := hok291
                have := hl300.1.2.1; have := hl300.1.2.2.1
                refine r_aload_n hX dX2_piece_140 rfl ?_
                refine r_callVV (As := []) (rest := []) hX (c_X2_close hA σ287 P key q294 (C ++ c295) (n + n296) hp299 hl300.1 (by (try simp only [List.length_append, List.length_cons, List.length_nil]); omega)) dX2_piece_141 cb_X2_117 (hA.1 105 (1, 0) rfl) rfl rfl ⟨by show _ ≤ 2 * (d + 1) + 10; omega, by show _ ≤ 50 * (d + 1) + 300; omega⟩ ⟨Nat.le_of_ble_eq_true rfl, Nat.le_of_ble_eq_true rfl⟩ (Nat.le_of_ble_eq_true rfl) (fun σ301 h302 => ?_)
                obtain ⟨hp303, hx304⟩ := h302
                refine r_goto hX dX2_piece_144 ?_
                exact r_return hX hQ dX2_piece_155 ⟨Nat.le_of_ble_eq_true rfl, Nat.le_of_ble_eq_true rfl⟩ (PV.mk ⟨by show PQc _ P key C n (prs P key (d + 1) 5 o nt q); rw [prs_5, pce_o c279 (by omega), hr292]; exact close_fin hp303, (Ex.tr (Ex.tr (Ex.tr (Ex.rf σ) (pXc_pYc hx284)) hx290) hx304)⟩)
        · skip
          refine r_aload_n hX dX2_piece_90 rfl ?_
          refine r_callVV (As := []) (rest := []) hX (c_X2_step hA σ P (hps).1 q.2.2.1 (nxN q) (wwB q) (lok).2.2.1 (nxN_le _) (hps).2.1.1 (hps).2.1.2.2 (ww_nx (ok3 (sg_y3 c251)))) dX2_piece_91 cb_X2_41 (hA.1 105 (1, 0) rfl) rfl rfl ⟨by show _ ≤ 2 * (d + 1) + 10; omega, by show _ ≤ 50 * (d + 1) + 300; omega⟩ ⟨Nat.le_of_ble_eq_true rfl, Nat.le_of_ble_eq_true rfl⟩ (Nat.le_of_ble_eq_true rfl) (fun σ305 h306 => ?_)
          obtain ⟨hl307, hx308⟩ := h306
          have hp309 : PSc σ305 P key (nxq P q) C n := PSc.nx hps hx308 hl307
          have hlok310 := (lok).nx
          refine r_aload_n hX dX2_piece_94 rfl ?_
          refine r_iload_n hX dX2_piece_95 rfl ?_
          refine r_iload_n hX dX2_piece_96 rfl ?_
          refine r_iconst hX (nI 1) dX2_piece_97 rfl ?_
          refine r_iaddN hX dX2_piece_98 ?_
          have hmn1 := hlok310.2.1; have hmn2 := hlok310.2.2
          refine r_callVV (As := [.int (nI o), .int (nI (nt + 1))]) (rest := []) hX (by rw [hl, hD]; exact hsubP (by omega) σ305 (nxq P q) C n hp309 hlok310.1 (by (try simp only [List.length_append, List.length_cons, List.length_nil]); omega)) dX2_piece_99 cb_X2_93 (hA.1 105 (1, 0) rfl) rfl rfl ⟨by show _ ≤ 2 * (d + 1) + 10; omega, by show _ ≤ 50 * (d + 1) + 300; omega⟩ ⟨Nat.le_of_ble_eq_true rfl, Nat.le_of_ble_eq_true rfl⟩ (Nat.le_of_ble_eq_true rfl) (fun σ311 h312 => ?_)
          obtain ⟨hq313, hx314⟩ := h312
          have hok315 := prs_ok P key d 5 o (nt + 1) (nxq P q) hlok310.1
          rcases hr316 : prs P key d 5 o (nt + 1) (nxq P q) with f317 | ⟨q318, c319, n320⟩
          · skip
            rw [hr316] at hq313 hok315
            have hq313 : FLc σ311 f317 := hq313
            have hflf317 : f317 ≤ P.1 := hok315.2
            refine r_aload_n hX dX2_piece_102 rfl ?_
            refine r_sipush hX (nI 20033) dX2_piece_103 rfl ?_
            refine r_callVV (As := [.int (nI 20033)]) (rest := []) hX (c_X2_putB hA σ311 f317 hq313 (nI 20033)) dX2_piece_106 cb_X2_100 (hA.1 105 (1, 0) rfl) rfl rfl ⟨by show _ ≤ 2 * (d + 1) + 10; omega, by show _ ≤ 50 * (d + 1) + 300; omega⟩ ⟨Nat.le_of_ble_eq_true rfl, Nat.le_of_ble_eq_true rfl⟩ (Nat.le_of_ble_eq_true rfl) (fun σ321 h322 => ?_)
            obtain ⟨hb323, hx324⟩ := h322
            refine r_goto hX dX2_piece_109 ?_
            exact r_return hX hQ dX2_piece_155 ⟨Nat.le_of_ble_eq_true rfl, Nat.le_of_ble_eq_true rfl⟩ (PV.mk ⟨by show PQc _ P key C n (prs P key (d + 1) 5 o nt q); rw [prs_5, pce_b c251 (by omega), hr316]; exact hb323, (Ex.tr (Ex.tr (Ex.tr (Ex.rf σ) (pXc_pYc hx308)) hx314) hx324)⟩)
          · skip
            rw [hr316] at hq313 hok315
            have hp325 : PSc σ311 P key q318 (C ++ c319) (n + n320) := hq313
            have hl326 : Lok P q318 ∧ (nxq P q).1 + c319.length ≤ q318.1 ∧ (nxq P q).1 < q318.1 := hok315
            have := hl326.1.2.1; have := hl326.1.2.2.1
            refine r_aload_n hX dX2_piece_102 rfl ?_
            refine r_sipush hX (nI 20033) dX2_piece_103 rfl ?_
            refine r_callVV (As := [.int (nI 20033)]) (rest := []) hX (by rw [show nI 20033 = nI (tcd key 20000) from rfl]; exact c_X2_put hA σ311 P key q318 (C ++ c319) (n + n320) hp325 hl326.1 20000 (by (try simp only [List.length_append, List.length_cons, List.length_nil]); omega)) dX2_piece_106 cb_X2_100 (hA.1 105 (1, 0) rfl) rfl rfl ⟨by show _ ≤ 2 * (d + 1) + 10; omega, by show _ ≤ 50 * (d + 1) + 300; omega⟩ ⟨Nat.le_of_ble_eq_true rfl, Nat.le_of_ble_eq_true rfl⟩ (Nat.le_of_ble_eq_true rfl) (fun σ327 h328 => ?_)
            obtain ⟨hp329, hx330⟩ := h328
            refine r_goto hX dX2_piece_109 ?_
            exact r_return hX hQ dX2_piece_155 ⟨Nat.le_of_ble_eq_true rfl, Nat.le_of_ble_eq_true rfl⟩ (PV.mk ⟨by show PQc _ P key C n (prs P key (d + 1) 5 o nt q); rw [prs_5, pce_b c251 (by omega), hr316]; show PSc _ P key q318 (C ++ (c319 ++ [20000])) (n + n320); exact PSc.as hp329 (by simp only [List.append_assoc]) rfl, (Ex.tr (Ex.tr (Ex.tr (Ex.rf σ) (pXc_pYc hx308)) hx314) hx330)⟩)
    · skip
      refine r_aload_n hX dX2_piece_21 rfl ?_
      refine r_aload_n hX dX2_piece_22 rfl ?_
      refine r_callVF (As := []) (rest := [.ref (L.1 105)]) hX (c_X2_number hA σ P hps.1 q hps.2.1 lok ((nx3 lok).mp c1).1 (by omega)) dX2_piece_23 cb_X2_104 (hA.1 105 (1, 0) rfl) rfl rfl ⟨by show _ ≤ 2 * (d + 1) + 10; omega, by show _ ≤ 50 * (d + 1) + 300; omega⟩ ⟨Nat.le_of_ble_eq_true rfl, Nat.le_of_ble_eq_true rfl⟩ (Nat.le_of_ble_eq_true rfl) ?_
      refine r_callVV (As := [.int (nI (vlN P q))]) (rest := []) hX (by rw [show nI (vlN P q) = nI (tcd key (vlN P q)) from (congrArg nI (tcd_num (by omega)).symm)]; exact c_X2_leaf hA σ P key q C n hps lok (vlN P q) (by omega) ((nx3 lok).mp c1).2) dX2_piece_26 cb_X2_107 (hA.1 105 (1, 0) rfl) rfl rfl ⟨by show _ ≤ 2 * (d + 1) + 10; omega, by show _ ≤ 50 * (d + 1) + 300; omega⟩ ⟨Nat.le_of_ble_eq_true rfl, Nat.le_of_ble_eq_true rfl⟩ (Nat.le_of_ble_eq_true rfl) (fun σ331 h332 => ?_)
      obtain ⟨hp333, hx334⟩ := h332
      refine r_goto hX dX2_piece_29 ?_
      exact r_return hX hQ dX2_piece_155 ⟨Nat.le_of_ble_eq_true rfl, Nat.le_of_ble_eq_true rfl⟩ (PV.mk ⟨by show PQc _ P key C n (prs P key (d + 1) 5 o nt q); rw [prs_5, pce_d (mk2.mpr ⟨((nx3 lok).mp c1).1, ((nx3 lok).mp c1).2, by omega⟩)]; exact hp333, (Ex.tr (Ex.rf σ) hx334)⟩)
