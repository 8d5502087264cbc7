set_option maxHeartbeats 4000000 in
set_option maxRecDepth 100000 in
theorem c_X10_term {l : Launch} {D : Ds} {L : La} (hM : MAt L) (d : Nat) (P : Tp) (key o nt : Nat) (hsub : ∀ (σ : Me) (q : Lx) (C : List Nat) (n : Nat), PS σ P key o nt q C n → Lok P q → C.length ≤ q.1 → Ct l yX10_piece cX10_piece 1 none { frames := d + 5, cells := 0, slots := 0, locals := 30 * (d) + 130 } D L σ [.ref (L.1 0)] (PV L (fun σ2 => PQ σ2 P key o nt C n (prs P key d 5 o nt q) ∧ Ex pY σ σ2))) (σ : Me) (q : Lx) (C : List Nat) (n : Nat) (hps : PS σ P key o nt q C n) (lok : Lok P q) (hCq : C.length ≤ q.1) : Ct l yX10_term cX10_term 2 none { frames := d + 1 + 5, cells := 0, slots := 0, locals := 30 * (d + 1) + 130 } D L σ [.ref (L.1 0)] (PV L (fun σ2 => PQ σ2 P key o nt C n (prs P key (d + 1) 4 o nt q) ∧ Ex pY σ σ2)) := by
  refine Ct.of (by decide) (Nat.le_of_ble_eq_true rfl) ?_
  intro X hl hD hnl hX0 hQ
  have hX : Ok X cX10_term RX10 "term" { frames := d + 1 + 5, cells := 0, slots := 0, locals := 30 * (d + 1) + 130 } none := hX0
  have hN1 : 1 < xn X := by rw [hnl]; decide
  have hP96 := hps.1.2.1
  have := lok.2.1; have := lok.2.2.1
  show At X L σ 0 0 [(0, .ref (L.1 0))] 0 []
  refine r_aload_n hX dX10_term_0 rfl ?_
  refine r_callVV (As := []) (rest := []) hX (by rw [hl, hD]; exact hsub σ q C n hps lok (by (try simp only [List.length_append, List.length_cons, List.length_nil]); omega)) dX10_term_1 cb_X10_297 (hM.1 0 (9, 0) rfl) rfl rfl ⟨by show _ ≤ d + 1 + 5; omega, by show _ ≤ 30 * (d + 1) + 130; omega⟩ ⟨Nat.le_of_ble_eq_true rfl, Nat.le_of_ble_eq_true rfl⟩ (Nat.le_of_ble_eq_true rfl) (fun σ1 h2 => ?_)
  obtain ⟨hq3, hx4⟩ := h2
  have hok5 := prs_ok P key d 5 o nt q lok
  rcases hr6 : prs P key d 5 o nt q with f7 | ⟨q8, c9, n10⟩
  · skip
    rw [hr6] at hq3
    refine r_aload_n hX dX10_term_4 rfl ?_
    refine r_bipush hX (nI 42) dX10_term_5 rfl ?_
    refine r_callVF (As := [.int (nI 42)]) (rest := []) hX (c_X10_isMarkB hM σ1 hq3.1 (nI 42)) dX10_term_7 cb_X10_285 (hM.1 0 (9, 0) rfl) rfl rfl ⟨by show _ ≤ d + 1 + 5; omega, by show _ ≤ 30 * (d + 1) + 130; omega⟩ ⟨Nat.le_of_ble_eq_true rfl, Nat.le_of_ble_eq_true rfl⟩ (Nat.le_of_ble_eq_true rfl) ?_
    refine r_ifN_ne hX dX10_term_10 (by decide) (fun c11 => absurd c11 (by decide)) (fun c11 => ?_)
    refine r_aload_n hX dX10_term_13 rfl ?_
    refine r_bipush hX (nI 47) dX10_term_14 rfl ?_
    refine r_callVF (As := [.int (nI 47)]) (rest := []) hX (c_X10_isMarkB hM σ1 hq3.1 (nI 47)) dX10_term_16 cb_X10_285 (hM.1 0 (9, 0) rfl) rfl rfl ⟨by show _ ≤ d + 1 + 5; omega, by show _ ≤ 30 * (d + 1) + 130; omega⟩ ⟨Nat.le_of_ble_eq_true rfl, Nat.le_of_ble_eq_true rfl⟩ (Nat.le_of_ble_eq_true rfl) ?_
    refine r_ifN_eq hX dX10_term_19 (by decide) (fun c12 => ?_) (fun c12 => absurd c12 (by decide))
    exact r_return hX hQ dX10_term_57 ⟨Nat.le_of_ble_eq_true rfl, Nat.le_of_ble_eq_true rfl⟩ (PV.mk ⟨by show PQ _ P key o nt C n (prs P key (d + 1) 4 o nt q); rw [prs_lv (by decide), hr6]; exact ⟨hq3.1, hq3.2⟩, (Ex.tr (Ex.rf σ) hx4)⟩)
  · skip
    rw [hr6] at hq3 hok5
    have hp13 : PS σ1 P key o nt q8 (C ++ c9) (n + n10) := hq3
    have hl14 : Lok P q8 ∧ q.1 + c9.length ≤ q8.1 ∧ q.1 < q8.1 := hok5
    have := hl14.1.2.1; have := hl14.1.2.2.1
    have P15 : ∀ k, k ≤ 97 → ∀ (qk : Lx) (ck : List Nat) (nk : Nat) (σk : Me) (hpk : PS σk P key o nt qk (C ++ ck) (n + nk)) (lokk : Lok P qk) (hlk : q.1 + ck.length ≤ qk.1) (hkq : k ≤ qk.1) (hEk : Ex pY σ σk) (hres : lpr (prs P key d 5 o nt) P 4 (97 - k) qk ck nk = prs P key (d + 1) 4 o nt q), At X L σk 0 0 [(0, .ref (L.1 0))] 4 [] := by
      refine loopUp 97 ?_ ?_
      · skip
        intro qk ck nk σk hpk lokk hlk hkq hEk hres
        exact absurd hkq (by have := lokk.2.1; have := lokk.2.2.1; omega)
      · skip
        intro k hk97 ih16 qk ck nk σk hpk lokk hlk hkq hEk hres
        have := lokk.2.1; have := lokk.2.2.1
        refine r_aload_n hX dX10_term_4 rfl ?_
        refine r_bipush hX (nI 42) dX10_term_5 rfl ?_
        refine r_callVF (As := [.int (nI 42)]) (rest := []) hX (c_X10_isMark hM σk P key o nt qk (C ++ ck) (n + nk) hpk lokk 42 (by decide)) dX10_term_7 cb_X10_285 (hM.1 0 (9, 0) rfl) rfl rfl ⟨by show _ ≤ d + 1 + 5; omega, by show _ ≤ 30 * (d + 1) + 130; omega⟩ ⟨Nat.le_of_ble_eq_true rfl, Nat.le_of_ble_eq_true rfl⟩ (Nat.le_of_ble_eq_true rfl) ?_
        refine r_ifB_ne hX dX10_term_10 (fun c17 => ?_) (fun c17 => ?_)
        · skip
          refine r_aload_n hX dX10_term_22 rfl ?_
          refine r_getIV hX dX10_term_23 fl_X10_252 (hM.1 0 (9, 0) rfl) rfl (nI 42) ((hpk).2.1.2.2.2.2.1.trans (congrArg nI (vl_sg c17))) ?_
          refine r_bipush hX (nI 42) dX10_term_26 rfl ?_
          refine r_icmpN_ne hX dX10_term_28 (by decide) (by decide) (fun c18 => absurd c18 (by decide)) (fun c18 => ?_)
          refine r_sipush hX (nI 20008) dX10_term_31 rfl ?_
          refine r_goto hX dX10_term_34 ?_
          refine r_istore_n hX [(0, .ref (L.1 0)), (1, .int (nI 20008))] dX10_term_40 hN1 rfl ?_
          refine r_aload_n hX dX10_term_41 rfl ?_
          refine r_callVV (As := []) (rest := []) hX (c_X10_next hM σk P (hpk).1 qk.2.2.1 (wwB qk) (hpk).2.1.1 (hpk).2.1.2.2.2.2.2 (lokk).2.2.1) dX10_term_42 cb_X10_294 (hM.1 0 (9, 0) rfl) rfl rfl ⟨by show _ ≤ d + 1 + 5; omega, by show _ ≤ 30 * (d + 1) + 130; omega⟩ ⟨Nat.le_of_ble_eq_true rfl, Nat.le_of_ble_eq_true rfl⟩ (Nat.le_of_ble_eq_true rfl) (fun σ19 h20 => ?_)
          obtain ⟨hl21, hx22⟩ := h20
          have hp23 : PS σ19 P key o nt (nxq P qk) (C ++ ck) (n + nk) := PS.nx hpk hx22 hl21
          have hlok24 := (lokk).nx
          refine r_aload_n hX dX10_term_45 rfl ?_
          refine r_callVV (As := []) (rest := []) hX (by rw [hl, hD]; exact hsub σ19 (nxq P qk) (C ++ ck) (n + nk) hp23 hlok24.1 (by (try simp only [List.length_append, List.length_cons, List.length_nil]); omega)) dX10_term_46 cb_X10_297 (hM.1 0 (9, 0) rfl) rfl rfl ⟨by show _ ≤ d + 1 + 5; omega, by show _ ≤ 30 * (d + 1) + 130; omega⟩ ⟨Nat.le_of_ble_eq_true rfl, Nat.le_of_ble_eq_true rfl⟩ (Nat.le_of_ble_eq_true rfl) (fun σ25 h26 => ?_)
          obtain ⟨hq27, hx28⟩ := h26
          have hok29 := prs_ok P key d 5 o nt (nxq P qk) hlok24.1
          rcases hr30 : prs P key d 5 o nt (nxq P qk) with f31 | ⟨q32, c33, n34⟩
          · skip
            rw [hr30] at hq27
            refine r_aload_n hX dX10_term_49 rfl ?_
            refine r_iload_n hX dX10_term_50 rfl ?_
            refine r_callVV (As := [.int (nI 20008)]) (rest := []) hX (c_X10_emitB hM σ25 hq27.1 (nI 20008)) dX10_term_51 cb_X10_300 (hM.1 0 (9, 0) rfl) rfl rfl ⟨by show _ ≤ d + 1 + 5; omega, by show _ ≤ 30 * (d + 1) + 130; omega⟩ ⟨Nat.le_of_ble_eq_true rfl, Nat.le_of_ble_eq_true rfl⟩ (Nat.le_of_ble_eq_true rfl) (fun σ35 h36 => ?_)
            replace h36 := h36.symm
            subst h36
            refine r_goto hX dX10_term_54 ?_
            refine r_aload_n hX dX10_term_4 rfl ?_
            refine r_bipush hX (nI 42) dX10_term_5 rfl ?_
            refine r_callVF (As := [.int (nI 42)]) (rest := []) hX (c_X10_isMarkB hM σ25 hq27.1 (nI 42)) dX10_term_7 cb_X10_285 (hM.1 0 (9, 0) rfl) rfl rfl ⟨by show _ ≤ d + 1 + 5; omega, by show _ ≤ 30 * (d + 1) + 130; omega⟩ ⟨Nat.le_of_ble_eq_true rfl, Nat.le_of_ble_eq_true rfl⟩ (Nat.le_of_ble_eq_true rfl) ?_
            refine r_ifN_ne hX dX10_term_10 (by decide) (fun c37 => absurd c37 (by decide)) (fun c37 => ?_)
            refine r_aload_n hX dX10_term_13 rfl ?_
            refine r_bipush hX (nI 47) dX10_term_14 rfl ?_
            refine r_callVF (As := [.int (nI 47)]) (rest := []) hX (c_X10_isMarkB hM σ25 hq27.1 (nI 47)) dX10_term_16 cb_X10_285 (hM.1 0 (9, 0) rfl) rfl rfl ⟨by show _ ≤ d + 1 + 5; omega, by show _ ≤ 30 * (d + 1) + 130; omega⟩ ⟨Nat.le_of_ble_eq_true rfl, Nat.le_of_ble_eq_true rfl⟩ (Nat.le_of_ble_eq_true rfl) ?_
            refine r_ifN_eq hX dX10_term_19 (by decide) (fun c38 => ?_) (fun c38 => absurd c38 (by decide))
            exact r_return hX hQ dX10_term_57 ⟨Nat.le_of_ble_eq_true rfl, Nat.le_of_ble_eq_true rfl⟩ (PV.mk ⟨by show PQ _ P key o nt C n (prs P key (d + 1) 4 o nt q); rw [← hres, show 97 - k = (96 - k) + 1 by omega, lpr_y (lv := 4) c17 rfl, hr30]; exact ⟨hq27.1, hq27.2⟩, (Ex.tr (Ex.tr hEk (pX_pY hx22)) hx28)⟩)
          · skip
            rw [hr30] at hq27 hok29
            have hp39 : PS σ25 P key o nt q32 ((C ++ ck) ++ c33) (n + nk + n34) := hq27
            have hl40 : Lok P q32 ∧ (nxq P qk).1 + c33.length ≤ q32.1 ∧ (nxq P qk).1 < q32.1 := hok29
            have := hl40.1.2.1; have := hl40.1.2.2.1
            refine r_aload_n hX dX10_term_49 rfl ?_
            refine r_iload_n hX dX10_term_50 rfl ?_
            refine r_callVV (As := [.int (nI 20008)]) (rest := []) hX (c_X10_emit hM σ25 P key o nt q32 ((C ++ ck) ++ c33) (n + nk + n34) hp39 hl40.1 20008 (by (try simp only [List.length_append, List.length_cons, List.length_nil]); omega)) dX10_term_51 cb_X10_300 (hM.1 0 (9, 0) rfl) rfl rfl ⟨by show _ ≤ d + 1 + 5; omega, by show _ ≤ 30 * (d + 1) + 130; omega⟩ ⟨Nat.le_of_ble_eq_true rfl, Nat.le_of_ble_eq_true rfl⟩ (Nat.le_of_ble_eq_true rfl) (fun σ41 h42 => ?_)
            obtain ⟨hp43, hx44⟩ := h42
            refine r_goto hX dX10_term_54 ?_
            exact At.less (At.to (ls := [(0, .ref (L.1 0))]) (ih16 q32 (ck ++ c33 ++ [20008]) (nk + n34) σ41 (PS.as hp43 (by simp only [List.append_assoc]) (by omega)) hl40.1 (by simp only [List.length_append, List.length_cons, List.length_nil]; have := sg_lt lokk c17; omega) (by have := sg_lt lokk c17; omega) (Ex.tr (Ex.tr (Ex.tr hEk (pX_pY hx22)) hx28) hx44) (by rw [← hres, show 97 - k = (97 - (k + 1)) + 1 by omega, lpr_y (lv := 4) c17 rfl, hr30]; rfl)) rfl rfl rfl) (by simp)
        · skip
          refine r_aload_n hX dX10_term_13 rfl ?_
          refine r_bipush hX (nI 47) dX10_term_14 rfl ?_
          refine r_callVF (As := [.int (nI 47)]) (rest := []) hX (c_X10_isMark hM σk P key o nt qk (C ++ ck) (n + nk) hpk lokk 47 (by decide)) dX10_term_16 cb_X10_285 (hM.1 0 (9, 0) rfl) rfl rfl ⟨by show _ ≤ d + 1 + 5; omega, by show _ ≤ 30 * (d + 1) + 130; omega⟩ ⟨Nat.le_of_ble_eq_true rfl, Nat.le_of_ble_eq_true rfl⟩ (Nat.le_of_ble_eq_true rfl) ?_
          refine r_ifB_eq hX dX10_term_19 (fun c45 => ?_) (fun c45 => ?_)
          · skip
            exact r_return hX hQ dX10_term_57 ⟨Nat.le_of_ble_eq_true rfl, Nat.le_of_ble_eq_true rfl⟩ (PV.mk ⟨by show PQ _ P key o nt C n (prs P key (d + 1) 4 o nt q); rw [← hres, lpr_no (lvq_no (by decide) (fun v hv => by rcases opl_4 hv with rfl | rfl; exact c17; exact c45))]; exact hpk, hEk⟩)
          · skip
            refine r_aload_n hX dX10_term_22 rfl ?_
            refine r_getIV hX dX10_term_23 fl_X10_252 (hM.1 0 (9, 0) rfl) rfl (nI 47) ((hpk).2.1.2.2.2.2.1.trans (congrArg nI (vl_sg c45))) ?_
            refine r_bipush hX (nI 42) dX10_term_26 rfl ?_
            refine r_icmpN_ne hX dX10_term_28 (by decide) (by decide) (fun c46 => ?_) (fun c46 => absurd c46 (by decide))
            refine r_sipush hX (nI 20009) dX10_term_37 rfl ?_
            refine r_istore_n hX [(0, .ref (L.1 0)), (1, .int (nI 20009))] dX10_term_40 hN1 rfl ?_
            refine r_aload_n hX dX10_term_41 rfl ?_
            refine r_callVV (As := []) (rest := []) hX (c_X10_next hM σk P (hpk).1 qk.2.2.1 (wwB qk) (hpk).2.1.1 (hpk).2.1.2.2.2.2.2 (lokk).2.2.1) dX10_term_42 cb_X10_294 (hM.1 0 (9, 0) rfl) rfl rfl ⟨by show _ ≤ d + 1 + 5; omega, by show _ ≤ 30 * (d + 1) + 130; omega⟩ ⟨Nat.le_of_ble_eq_true rfl, Nat.le_of_ble_eq_true rfl⟩ (Nat.le_of_ble_eq_true rfl) (fun σ47 h48 => ?_)
            obtain ⟨hl49, hx50⟩ := h48
            have hp51 : PS σ47 P key o nt (nxq P qk) (C ++ ck) (n + nk) := PS.nx hpk hx50 hl49
            have hlok52 := (lokk).nx
            refine r_aload_n hX dX10_term_45 rfl ?_
            refine r_callVV (As := []) (rest := []) hX (by rw [hl, hD]; exact hsub σ47 (nxq P qk) (C ++ ck) (n + nk) hp51 hlok52.1 (by (try simp only [List.length_append, List.length_cons, List.length_nil]); omega)) dX10_term_46 cb_X10_297 (hM.1 0 (9, 0) rfl) rfl rfl ⟨by show _ ≤ d + 1 + 5; omega, by show _ ≤ 30 * (d + 1) + 130; omega⟩ ⟨Nat.le_of_ble_eq_true rfl, Nat.le_of_ble_eq_true rfl⟩ (Nat.le_of_ble_eq_true rfl) (fun σ53 h54 => ?_)
            obtain ⟨hq55, hx56⟩ := h54
            have hok57 := prs_ok P key d 5 o nt (nxq P qk) hlok52.1
            rcases hr58 : prs P key d 5 o nt (nxq P qk) with f59 | ⟨q60, c61, n62⟩
            · skip
              rw [hr58] at hq55
              refine r_aload_n hX dX10_term_49 rfl ?_
              refine r_iload_n hX dX10_term_50 rfl ?_
              refine r_callVV (As := [.int (nI 20009)]) (rest := []) hX (c_X10_emitB hM σ53 hq55.1 (nI 20009)) dX10_term_51 cb_X10_300 (hM.1 0 (9, 0) rfl) rfl rfl ⟨by show _ ≤ d + 1 + 5; omega, by show _ ≤ 30 * (d + 1) + 130; omega⟩ ⟨Nat.le_of_ble_eq_true rfl, Nat.le_of_ble_eq_true rfl⟩ (Nat.le_of_ble_eq_true rfl) (fun σ63 h64 => ?_)
              replace h64 := h64.symm
              subst h64
              refine r_goto hX dX10_term_54 ?_
              refine r_aload_n hX dX10_term_4 rfl ?_
              refine r_bipush hX (nI 42) dX10_term_5 rfl ?_
              refine r_callVF (As := [.int (nI 42)]) (rest := []) hX (c_X10_isMarkB hM σ53 hq55.1 (nI 42)) dX10_term_7 cb_X10_285 (hM.1 0 (9, 0) rfl) rfl rfl ⟨by show _ ≤ d + 1 + 5; omega, by show _ ≤ 30 * (d + 1) + 130; omega⟩ ⟨Nat.le_of_ble_eq_true rfl, Nat.le_of_ble_eq_true rfl⟩ (Nat.le_of_ble_eq_true rfl) ?_
              refine r_ifN_ne hX dX10_term_10 (by decide) (fun c65 => absurd c65 (by decide)) (fun c65 => ?_)
              refine r_aload_n hX dX10_term_13 rfl ?_
              refine r_bipush hX (nI 47) dX10_term_14 rfl ?_
              refine r_callVF (As := [.int (nI 47)]) (rest := []) hX (c_X10_isMarkB hM σ53 hq55.1 (nI 47)) dX10_term_16 cb_X10_285 (hM.1 0 (9, 0) rfl) rfl rfl ⟨by show _ ≤ d + 1 + 5; omega, by show _ ≤ 30 * (d + 1) + 130; omega⟩ ⟨Nat.le_of_ble_eq_true rfl, Nat.le_of_ble_eq_true rfl⟩ (Nat.le_of_ble_eq_true rfl) ?_
              refine r_ifN_eq hX dX10_term_19 (by decide) (fun c66 => ?_) (fun c66 => absurd c66 (by decide))
              exact r_return hX hQ dX10_term_57 ⟨Nat.le_of_ble_eq_true rfl, Nat.le_of_ble_eq_true rfl⟩ (PV.mk ⟨by show PQ _ P key o nt C n (prs P key (d + 1) 4 o nt q); rw [← hres, show 97 - k = (96 - k) + 1 by omega, lpr_y (lv := 4) c45 rfl, hr58]; exact ⟨hq55.1, hq55.2⟩, (Ex.tr (Ex.tr hEk (pX_pY hx50)) hx56)⟩)
            · skip
              rw [hr58] at hq55 hok57
              have hp67 : PS σ53 P key o nt q60 ((C ++ ck) ++ c61) (n + nk + n62) := hq55
              have hl68 : Lok P q60 ∧ (nxq P qk).1 + c61.length ≤ q60.1 ∧ (nxq P qk).1 < q60.1 := hok57
              have := hl68.1.2.1; have := hl68.1.2.2.1
              refine r_aload_n hX dX10_term_49 rfl ?_
              refine r_iload_n hX dX10_term_50 rfl ?_
              refine r_callVV (As := [.int (nI 20009)]) (rest := []) hX (c_X10_emit hM σ53 P key o nt q60 ((C ++ ck) ++ c61) (n + nk + n62) hp67 hl68.1 20009 (by (try simp only [List.length_append, List.length_cons, List.length_nil]); omega)) dX10_term_51 cb_X10_300 (hM.1 0 (9, 0) rfl) rfl rfl ⟨by show _ ≤ d + 1 + 5; omega, by show _ ≤ 30 * (d + 1) + 130; omega⟩ ⟨Nat.le_of_ble_eq_true rfl, Nat.le_of_ble_eq_true rfl⟩ (Nat.le_of_ble_eq_true rfl) (fun σ69 h70 => ?_)
              obtain ⟨hp71, hx72⟩ := h70
              refine r_goto hX dX10_term_54 ?_
              exact At.less (At.to (ls := [(0, .ref (L.1 0))]) (ih16 q60 (ck ++ c61 ++ [20009]) (nk + n62) σ69 (PS.as hp71 (by simp only [List.append_assoc]) (by omega)) hl68.1 (by simp only [List.length_append, List.length_cons, List.length_nil]; have := sg_lt lokk c45; omega) (by have := sg_lt lokk c45; omega) (Ex.tr (Ex.tr (Ex.tr hEk (pX_pY hx50)) hx56) hx72) (by rw [← hres, show 97 - k = (97 - (k + 1)) + 1 by omega, lpr_y (lv := 4) c45 rfl, hr58]; rfl)) rfl rfl rfl) (by simp)
    exact At.to (P15 0 (Nat.zero_le _) q8 c9 n10 σ1 hp13 hl14.1 hl14.2.1 (Nat.zero_le _) (Ex.tr (Ex.rf σ) hx4) (by rw [prs_lv (by decide), hr6]; rfl)) rfl rfl rfl

set_option maxHeartbeats 4000000 in
set_option maxRecDepth 100000 in
theorem c_X10_sum {l : Launch} {D : Ds} {L : La} (hM : MAt L) (d : Nat) (P : Tp) (key o nt : Nat) (hsub : ∀ (σ : Me) (q : Lx) (C : List Nat) (n : Nat), PS σ P key o nt q C n → Lok P q → C.length ≤ q.1 → Ct l yX10_term cX10_term 2 none { frames := d + 5, cells := 0, slots := 0, locals := 30 * (d) + 130 } D L σ [.ref (L.1 0)] (PV L (fun σ2 => PQ σ2 P key o nt C n (prs P key d 4 o nt q) ∧ Ex pY σ σ2))) (σ : Me) (q : Lx) (C : List Nat) (n : Nat) (hps : PS σ P key o nt q C n) (lok : Lok P q) (hCq : C.length ≤ q.1) : Ct l yX10_sum cX10_sum 2 none { frames := d + 1 + 5, cells := 0, slots := 0, locals := 30 * (d + 1) + 130 } D L σ [.ref (L.1 0)] (PV L (fun σ2 => PQ σ2 P key o nt C n (prs P key (d + 1) 3 o nt q) ∧ Ex pY σ σ2)) := by
  refine Ct.of (by decide) (Nat.le_of_ble_eq_true rfl) ?_
  intro X hl hD hnl hX0 hQ
  have hX : Ok X cX10_sum RX10 "sum" { frames := d + 1 + 5, cells := 0, slots := 0, locals := 30 * (d + 1) + 130 } none := hX0
  have hN1 : 1 < xn X := by rw [hnl]; decide
  have hP96 := hps.1.2.1
  have := lok.2.1; have := lok.2.2.1
  show At X L σ 0 0 [(0, .ref (L.1 0))] 0 []
  refine r_aload_n hX dX10_sum_0 rfl ?_
  refine r_callVV (As := []) (rest := []) hX (by rw [hl, hD]; exact hsub σ q C n hps lok (by (try simp only [List.length_append, List.length_cons, List.length_nil]); omega)) dX10_sum_1 cb_X10_316 (hM.1 0 (9, 0) rfl) rfl rfl ⟨by show _ ≤ d + 1 + 5; omega, by show _ ≤ 30 * (d + 1) + 130; omega⟩ ⟨Nat.le_of_ble_eq_true rfl, Nat.le_of_ble_eq_true rfl⟩ (Nat.le_of_ble_eq_true rfl) (fun σ1 h2 => ?_)
  obtain ⟨hq3, hx4⟩ := h2
  have hok5 := prs_ok P key d 4 o nt q lok
  rcases hr6 : prs P key d 4 o nt q with f7 | ⟨q8, c9, n10⟩
  · skip
    rw [hr6] at hq3
    refine r_aload_n hX dX10_sum_4 rfl ?_
    refine r_bipush hX (nI 43) dX10_sum_5 rfl ?_
    refine r_callVF (As := [.int (nI 43)]) (rest := []) hX (c_X10_isMarkB hM σ1 hq3.1 (nI 43)) dX10_sum_7 cb_X10_285 (hM.1 0 (9, 0) rfl) rfl rfl ⟨by show _ ≤ d + 1 + 5; omega, by show _ ≤ 30 * (d + 1) + 130; omega⟩ ⟨Nat.le_of_ble_eq_true rfl, Nat.le_of_ble_eq_true rfl⟩ (Nat.le_of_ble_eq_true rfl) ?_
    refine r_ifN_ne hX dX10_sum_10 (by decide) (fun c11 => absurd c11 (by decide)) (fun c11 => ?_)
    refine r_aload_n hX dX10_sum_13 rfl ?_
    refine r_bipush hX (nI 45) dX10_sum_14 rfl ?_
    refine r_callVF (As := [.int (nI 45)]) (rest := []) hX (c_X10_isMarkB hM σ1 hq3.1 (nI 45)) dX10_sum_16 cb_X10_285 (hM.1 0 (9, 0) rfl) rfl rfl ⟨by show _ ≤ d + 1 + 5; omega, by show _ ≤ 30 * (d + 1) + 130; omega⟩ ⟨Nat.le_of_ble_eq_true rfl, Nat.le_of_ble_eq_true rfl⟩ (Nat.le_of_ble_eq_true rfl) ?_
    refine r_ifN_eq hX dX10_sum_19 (by decide) (fun c12 => ?_) (fun c12 => absurd c12 (by decide))
    exact r_return hX hQ dX10_sum_57 ⟨Nat.le_of_ble_eq_true rfl, Nat.le_of_ble_eq_true rfl⟩ (PV.mk ⟨by show PQ _ P key o nt C n (prs P key (d + 1) 3 o nt q); rw [prs_lv (by decide), hr6]; exact ⟨hq3.1, hq3.2⟩, (Ex.tr (Ex.rf σ) hx4)⟩)
  · skip
    rw [hr6] at hq3 hok5
    have hp13 : PS σ1 P key o nt q8 (C ++ c9) (n + n10) := hq3
    have hl14 : Lok P q8 ∧ q.1 + c9.length ≤ q8.1 ∧ q.1 < q8.1 := hok5
    have := hl14.1.2.1; have := hl14.1.2.2.1
    have P15 : ∀ k, k ≤ 97 → ∀ (qk : Lx) (ck : List Nat) (nk : Nat) (σk : Me) (hpk : PS σk P key o nt qk (C ++ ck) (n + nk)) (lokk : Lok P qk) (hlk : q.1 + ck.length ≤ qk.1) (hkq : k ≤ qk.1) (hEk : Ex pY σ σk) (hres : lpr (prs P key d 4 o nt) P 3 (97 - k) qk ck nk = prs P key (d + 1) 3 o nt q), At X L σk 0 0 [(0, .ref (L.1 0))] 4 [] := by
      refine loopUp 97 ?_ ?_
      · skip
        intro qk ck nk σk hpk lokk hlk hkq hEk hres
        exact absurd hkq (by have := lokk.2.1; have := lokk.2.2.1; omega)
      · skip
        intro k hk97 ih16 qk ck nk σk hpk lokk hlk hkq hEk hres
        have := lokk.2.1; have := lokk.2.2.1
        refine r_aload_n hX dX10_sum_4 rfl ?_
        refine r_bipush hX (nI 43) dX10_sum_5 rfl ?_
        refine r_callVF (As := [.int (nI 43)]) (rest := []) hX (c_X10_isMark hM σk P key o nt qk (C ++ ck) (n + nk) hpk lokk 43 (by decide)) dX10_sum_7 cb_X10_285 (hM.1 0 (9, 0) rfl) rfl rfl ⟨by show _ ≤ d + 1 + 5; omega, by show _ ≤ 30 * (d + 1) + 130; omega⟩ ⟨Nat.le_of_ble_eq_true rfl, Nat.le_of_ble_eq_true rfl⟩ (Nat.le_of_ble_eq_true rfl) ?_
        refine r_ifB_ne hX dX10_sum_10 (fun c17 => ?_) (fun c17 => ?_)
        · skip
          refine r_aload_n hX dX10_sum_22 rfl ?_
          refine r_getIV hX dX10_sum_23 fl_X10_252 (hM.1 0 (9, 0) rfl) rfl (nI 43) ((hpk).2.1.2.2.2.2.1.trans (congrArg nI (vl_sg c17))) ?_
          refine r_bipush hX (nI 43) dX10_sum_26 rfl ?_
          refine r_icmpN_ne hX dX10_sum_28 (by decide) (by decide) (fun c18 => absurd c18 (by decide)) (fun c18 => ?_)
          refine r_sipush hX (nI 20006) dX10_sum_31 rfl ?_
          refine r_goto hX dX10_sum_34 ?_
          refine r_istore_n hX [(0, .ref (L.1 0)), (1, .int (nI 20006))] dX10_sum_40 hN1 rfl ?_
          refine r_aload_n hX dX10_sum_41 rfl ?_
          refine r_callVV (As := []) (rest := []) hX (c_X10_next hM σk P (hpk).1 qk.2.2.1 (wwB qk) (hpk).2.1.1 (hpk).2.1.2.2.2.2.2 (lokk).2.2.1) dX10_sum_42 cb_X10_294 (hM.1 0 (9, 0) rfl) rfl rfl ⟨by show _ ≤ d + 1 + 5; omega, by show _ ≤ 30 * (d + 1) + 130; omega⟩ ⟨Nat.le_of_ble_eq_true rfl, Nat.le_of_ble_eq_true rfl⟩ (Nat.le_of_ble_eq_true rfl) (fun σ19 h20 => ?_)
          obtain ⟨hl21, hx22⟩ := h20
          have hp23 : PS σ19 P key o nt (nxq P qk) (C ++ ck) (n + nk) := PS.nx hpk hx22 hl21
          have hlok24 := (lokk).nx
          refine r_aload_n hX dX10_sum_45 rfl ?_
          refine r_callVV (As := []) (rest := []) hX (by rw [hl, hD]; exact hsub σ19 (nxq P qk) (C ++ ck) (n + nk) hp23 hlok24.1 (by (try simp only [List.length_append, List.length_cons, List.length_nil]); omega)) dX10_sum_46 cb_X10_316 (hM.1 0 (9, 0) rfl) rfl rfl ⟨by show _ ≤ d + 1 + 5; omega, by show _ ≤ 30 * (d + 1) + 130; omega⟩ ⟨Nat.le_of_ble_eq_true rfl, Nat.le_of_ble_eq_true rfl⟩ (Nat.le_of_ble_eq_true rfl) (fun σ25 h26 => ?_)
          obtain ⟨hq27, hx28⟩ := h26
          have hok29 := prs_ok P key d 4 o nt (nxq P qk) hlok24.1
          rcases hr30 : prs P key d 4 o nt (nxq P qk) with f31 | ⟨q32, c33, n34⟩
          · skip
            rw [hr30] at hq27
            refine r_aload_n hX dX10_sum_49 rfl ?_
            refine r_iload_n hX dX10_sum_50 rfl ?_
            refine r_callVV (As := [.int (nI 20006)]) (rest := []) hX (c_X10_emitB hM σ25 hq27.1 (nI 20006)) dX10_sum_51 cb_X10_300 (hM.1 0 (9, 0) rfl) rfl rfl ⟨by show _ ≤ d + 1 + 5; omega, by show _ ≤ 30 * (d + 1) + 130; omega⟩ ⟨Nat.le_of_ble_eq_true rfl, Nat.le_of_ble_eq_true rfl⟩ (Nat.le_of_ble_eq_true rfl) (fun σ35 h36 => ?_)
            replace h36 := h36.symm
            subst h36
            refine r_goto hX dX10_sum_54 ?_
            refine r_aload_n hX dX10_sum_4 rfl ?_
            refine r_bipush hX (nI 43) dX10_sum_5 rfl ?_
            refine r_callVF (As := [.int (nI 43)]) (rest := []) hX (c_X10_isMarkB hM σ25 hq27.1 (nI 43)) dX10_sum_7 cb_X10_285 (hM.1 0 (9, 0) rfl) rfl rfl ⟨by show _ ≤ d + 1 + 5; omega, by show _ ≤ 30 * (d + 1) + 130; omega⟩ ⟨Nat.le_of_ble_eq_true rfl, Nat.le_of_ble_eq_true rfl⟩ (Nat.le_of_ble_eq_true rfl) ?_
            refine r_ifN_ne hX dX10_sum_10 (by decide) (fun c37 => absurd c37 (by decide)) (fun c37 => ?_)
            refine r_aload_n hX dX10_sum_13 rfl ?_
            refine r_bipush hX (nI 45) dX10_sum_14 rfl ?_
            refine r_callVF (As := [.int (nI 45)]) (rest := []) hX (c_X10_isMarkB hM σ25 hq27.1 (nI 45)) dX10_sum_16 cb_X10_285 (hM.1 0 (9, 0) rfl) rfl rfl ⟨by show _ ≤ d + 1 + 5; omega, by show _ ≤ 30 * (d + 1) + 130; omega⟩ ⟨Nat.le_of_ble_eq_true rfl, Nat.le_of_ble_eq_true rfl⟩ (Nat.le_of_ble_eq_true rfl) ?_
            refine r_ifN_eq hX dX10_sum_19 (by decide) (fun c38 => ?_) (fun c38 => absurd c38 (by decide))
            exact r_return hX hQ dX10_sum_57 ⟨Nat.le_of_ble_eq_true rfl, Nat.le_of_ble_eq_true rfl⟩ (PV.mk ⟨by show PQ _ P key o nt C n (prs P key (d + 1) 3 o nt q); rw [← hres, show 97 - k = (96 - k) + 1 by omega, lpr_y (lv := 3) c17 rfl, hr30]; exact ⟨hq27.1, hq27.2⟩, (Ex.tr (Ex.tr hEk (pX_pY hx22)) hx28)⟩)
          · skip
            rw [hr30] at hq27 hok29
            have hp39 : PS σ25 P key o nt q32 ((C ++ ck) ++ c33) (n + nk + n34) := hq27
            have hl40 : Lok P q32 ∧ (nxq P qk).1 + c33.length ≤ q32.1 ∧ (nxq P qk).1 < q32.1 := hok29
            have := hl40.1.2.1; have := hl40.1.2.2.1
            refine r_aload_n hX dX10_sum_49 rfl ?_
            refine r_iload_n hX dX10_sum_50 rfl ?_
            refine r_callVV (As := [.int (nI 20006)]) (rest := []) hX (c_X10_emit hM σ25 P key o nt q32 ((C ++ ck) ++ c33) (n + nk + n34) hp39 hl40.1 20006 (by (try simp only [List.length_append, List.length_cons, List.length_nil]); omega)) dX10_sum_51 cb_X10_300 (hM.1 0 (9, 0) rfl) rfl rfl ⟨by show _ ≤ d + 1 + 5; omega, by show _ ≤ 30 * (d + 1) + 130; omega⟩ ⟨Nat.le_of_ble_eq_true rfl, Nat.le_of_ble_eq_true rfl⟩ (Nat.le_of_ble_eq_true rfl) (fun σ41 h42 => ?_)
            obtain ⟨hp43, hx44⟩ := h42
            refine r_goto hX dX10_sum_54 ?_
            exact At.less (At.to (ls := [(0, .ref (L.1 0))]) (ih16 q32 (ck ++ c33 ++ [20006]) (nk + n34) σ41 (PS.as hp43 (by simp only [List.append_assoc]) (by omega)) hl40.1 (by simp only [List.length_append, List.length_cons, List.length_nil]; have := sg_lt lokk c17; omega) (by have := sg_lt lokk c17; omega) (Ex.tr (Ex.tr (Ex.tr hEk (pX_pY hx22)) hx28) hx44) (by rw [← hres, show 97 - k = (97 - (k + 1)) + 1 by omega, lpr_y (lv := 3) c17 rfl, hr30]; rfl)) rfl rfl rfl) (by simp)
        · skip
          refine r_aload_n hX dX10_sum_13 rfl ?_
          refine r_bipush hX (nI 45) dX10_sum_14 rfl ?_
          refine r_callVF (As := [.int (nI 45)]) (rest := []) hX (c_X10_isMark hM σk P key o nt qk (C ++ ck) (n + nk) hpk lokk 45 (by decide)) dX10_sum_16 cb_X10_285 (hM.1 0 (9, 0) rfl) rfl rfl ⟨by show _ ≤ d + 1 + 5; omega, by show _ ≤ 30 * (d + 1) + 130; omega⟩ ⟨Nat.le_of_ble_eq_true rfl, Nat.le_of_ble_eq_true rfl⟩ (Nat.le_of_ble_eq_true rfl) ?_
          refine r_ifB_eq hX dX10_sum_19 (fun c45 => ?_) (fun c45 => ?_)
          · skip
            exact r_return hX hQ dX10_sum_57 ⟨Nat.le_of_ble_eq_true rfl, Nat.le_of_ble_eq_true rfl⟩ (PV.mk ⟨by show PQ _ P key o nt C n (prs P key (d + 1) 3 o nt q); rw [← hres, lpr_no (lvq_no (by decide) (fun v hv => by rcases opl_3 hv with rfl | rfl; exact c17; exact c45))]; exact hpk, hEk⟩)
          · skip
            refine r_aload_n hX dX10_sum_22 rfl ?_
            refine r_getIV hX dX10_sum_23 fl_X10_252 (hM.1 0 (9, 0) rfl) rfl (nI 45) ((hpk).2.1.2.2.2.2.1.trans (congrArg nI (vl_sg c45))) ?_
            refine r_bipush hX (nI 43) dX10_sum_26 rfl ?_
            refine r_icmpN_ne hX dX10_sum_28 (by decide) (by decide) (fun c46 => ?_) (fun c46 => absurd c46 (by decide))
            refine r_sipush hX (nI 20007) dX10_sum_37 rfl ?_
            refine r_istore_n hX [(0, .ref (L.1 0)), (1, .int (nI 20007))] dX10_sum_40 hN1 rfl ?_
            refine r_aload_n hX dX10_sum_41 rfl ?_
            refine r_callVV (As := []) (rest := []) hX (c_X10_next hM σk P (hpk).1 qk.2.2.1 (wwB qk) (hpk).2.1.1 (hpk).2.1.2.2.2.2.2 (lokk).2.2.1) dX10_sum_42 cb_X10_294 (hM.1 0 (9, 0) rfl) rfl rfl ⟨by show _ ≤ d + 1 + 5; omega, by show _ ≤ 30 * (d + 1) + 130; omega⟩ ⟨Nat.le_of_ble_eq_true rfl, Nat.le_of_ble_eq_true rfl⟩ (Nat.le_of_ble_eq_true rfl) (fun σ47 h48 => ?_)
            obtain ⟨hl49, hx50⟩ := h48
            have hp51 : PS σ47 P key o nt (nxq P qk) (C ++ ck) (n + nk) := PS.nx hpk hx50 hl49
            have hlok52 := (lokk).nx
            refine r_aload_n hX dX10_sum_45 rfl ?_
            refine r_callVV (As := []) (rest := []) hX (by rw [hl, hD]; exact hsub σ47 (nxq P qk) (C ++ ck) (n + nk) hp51 hlok52.1 (by (try simp only [List.length_append, List.length_cons, List.length_nil]); omega)) dX10_sum_46 cb_X10_316 (hM.1 0 (9, 0) rfl) rfl rfl ⟨by show _ ≤ d + 1 + 5; omega, by show _ ≤ 30 * (d + 1) + 130; omega⟩ ⟨Nat.le_of_ble_eq_true rfl, Nat.le_of_ble_eq_true rfl⟩ (Nat.le_of_ble_eq_true rfl) (fun σ53 h54 => ?_)
            obtain ⟨hq55, hx56⟩ := h54
            have hok57 := prs_ok P key d 4 o nt (nxq P qk) hlok52.1
            rcases hr58 : prs P key d 4 o nt (nxq P qk) with f59 | ⟨q60, c61, n62⟩
            · skip
              rw [hr58] at hq55
              refine r_aload_n hX dX10_sum_49 rfl ?_
              refine r_iload_n hX dX10_sum_50 rfl ?_
              refine r_callVV (As := [.int (nI 20007)]) (rest := []) hX (c_X10_emitB hM σ53 hq55.1 (nI 20007)) dX10_sum_51 cb_X10_300 (hM.1 0 (9, 0) rfl) rfl rfl ⟨by show _ ≤ d + 1 + 5; omega, by show _ ≤ 30 * (d + 1) + 130; omega⟩ ⟨Nat.le_of_ble_eq_true rfl, Nat.le_of_ble_eq_true rfl⟩ (Nat.le_of_ble_eq_true rfl) (fun σ63 h64 => ?_)
              replace h64 := h64.symm
              subst h64
              refine r_goto hX dX10_sum_54 ?_
              refine r_aload_n hX dX10_sum_4 rfl ?_
              refine r_bipush hX (nI 43) dX10_sum_5 rfl ?_
              refine r_callVF (As := [.int (nI 43)]) (rest := []) hX (c_X10_isMarkB hM σ53 hq55.1 (nI 43)) dX10_sum_7 cb_X10_285 (hM.1 0 (9, 0) rfl) rfl rfl ⟨by show _ ≤ d + 1 + 5; omega, by show _ ≤ 30 * (d + 1) + 130; omega⟩ ⟨Nat.le_of_ble_eq_true rfl, Nat.le_of_ble_eq_true rfl⟩ (Nat.le_of_ble_eq_true rfl) ?_
              refine r_ifN_ne hX dX10_sum_10 (by decide) (fun c65 => absurd c65 (by decide)) (fun c65 => ?_)
              refine r_aload_n hX dX10_sum_13 rfl ?_
              refine r_bipush hX (nI 45) dX10_sum_14 rfl ?_
              refine r_callVF (As := [.int (nI 45)]) (rest := []) hX (c_X10_isMarkB hM σ53 hq55.1 (nI 45)) dX10_sum_16 cb_X10_285 (hM.1 0 (9, 0) rfl) rfl rfl ⟨by show _ ≤ d + 1 + 5; omega, by show _ ≤ 30 * (d + 1) + 130; omega⟩ ⟨Nat.le_of_ble_eq_true rfl, Nat.le_of_ble_eq_true rfl⟩ (Nat.le_of_ble_eq_true rfl) ?_
              refine r_ifN_eq hX dX10_sum_19 (by decide) (fun c66 => ?_) (fun c66 => absurd c66 (by decide))
              exact r_return hX hQ dX10_sum_57 ⟨Nat.le_of_ble_eq_true rfl, Nat.le_of_ble_eq_true rfl⟩ (PV.mk ⟨by show PQ _ P key o nt C n (prs P key (d + 1) 3 o nt q); rw [← hres, show 97 - k = (96 - k) + 1 by omega, lpr_y (lv := 3) c45 rfl, hr58]; exact ⟨hq55.1, hq55.2⟩, (Ex.tr (Ex.tr hEk (pX_pY hx50)) hx56)⟩)
            · skip
              rw [hr58] at hq55 hok57
              have hp67 : PS σ53 P key o nt q60 ((C ++ ck) ++ c61) (n + nk + n62) := hq55
              have hl68 : Lok P q60 ∧ (nxq P qk).1 + c61.length ≤ q60.1 ∧ (nxq P qk).1 < q60.1 := hok57
              have := hl68.1.2.1; have := hl68.1.2.2.1
              refine r_aload_n hX dX10_sum_49 rfl ?_
              refine r_iload_n hX dX10_sum_50 rfl ?_
              refine r_callVV (As := [.int (nI 20007)]) (rest := []) hX (c_X10_emit hM σ53 P key o nt q60 ((C ++ ck) ++ c61) (n + nk + n62) hp67 hl68.1 20007 (by (try simp only [List.length_append, List.length_cons, List.length_nil]); omega)) dX10_sum_51 cb_X10_300 (hM.1 0 (9, 0) rfl) rfl rfl ⟨by show _ ≤ d + 1 + 5; omega, by show _ ≤ 30 * (d + 1) + 130; omega⟩ ⟨Nat.le_of_ble_eq_true rfl, Nat.le_of_ble_eq_true rfl⟩ (Nat.le_of_ble_eq_true rfl) (fun σ69 h70 => ?_)
              obtain ⟨hp71, hx72⟩ := h70
              refine r_goto hX dX10_sum_54 ?_
              exact At.less (At.to (ls := [(0, .ref (L.1 0))]) (ih16 q60 (ck ++ c61 ++ [20007]) (nk + n62) σ69 (PS.as hp71 (by simp only [List.append_assoc]) (by omega)) hl68.1 (by simp only [List.length_append, List.length_cons, List.length_nil]; have := sg_lt lokk c45; omega) (by have := sg_lt lokk c45; omega) (Ex.tr (Ex.tr (Ex.tr hEk (pX_pY hx50)) hx56) hx72) (by rw [← hres, show 97 - k = (97 - (k + 1)) + 1 by omega, lpr_y (lv := 3) c45 rfl, hr58]; rfl)) rfl rfl rfl) (by simp)
    exact At.to (P15 0 (Nat.zero_le _) q8 c9 n10 σ1 hp13 hl14.1 hl14.2.1 (Nat.zero_le _) (Ex.tr (Ex.rf σ) hx4) (by rw [prs_lv (by decide), hr6]; rfl)) rfl rfl rfl

set_option maxHeartbeats 4000000 in
set_option maxRecDepth 100000 in
theorem c_X10_test {l : Launch} {D : Ds} {L : La} (hM : MAt L) (d : Nat) (P : Tp) (key o nt : Nat) (hsub : ∀ (σ : Me) (q : Lx) (C : List Nat) (n : Nat), PS σ P key o nt q C n → Lok P q → C.length ≤ q.1 → Ct l yX10_sum cX10_sum 2 none { frames := d + 5, cells := 0, slots := 0, locals := 30 * (d) + 130 } D L σ [.ref (L.1 0)] (PV L (fun σ2 => PQ σ2 P key o nt C n (prs P key d 3 o nt q) ∧ Ex pY σ σ2))) (σ : Me) (q : Lx) (C : List Nat) (n : Nat) (hps : PS σ P key o nt q C n) (lok : Lok P q) (hCq : C.length ≤ q.1) : Ct l yX10_test cX10_test 2 none { frames := d + 1 + 5, cells := 0, slots := 0, locals := 30 * (d + 1) + 130 } D L σ [.ref (L.1 0)] (PV L (fun σ2 => PQ σ2 P key o nt C n (prs P key (d + 1) 2 o nt q) ∧ Ex pY σ σ2)) := by
  refine Ct.of (by decide) (Nat.le_of_ble_eq_true rfl) ?_
  intro X hl hD hnl hX0 hQ
  have hX : Ok X cX10_test RX10 "test" { frames := d + 1 + 5, cells := 0, slots := 0, locals := 30 * (d + 1) + 130 } none := hX0
  have hN1 : 1 < xn X := by rw [hnl]; decide
  have hP96 := hps.1.2.1
  have := lok.2.1; have := lok.2.2.1
  show At X L σ 0 0 [(0, .ref (L.1 0))] 0 []
  refine r_aload_n hX dX10_test_0 rfl ?_
  refine r_callVV (As := []) (rest := []) hX (by rw [hl, hD]; exact hsub σ q C n hps lok (by (try simp only [List.length_append, List.length_cons, List.length_nil]); omega)) dX10_test_1 cb_X10_319 (hM.1 0 (9, 0) rfl) rfl rfl ⟨by show _ ≤ d + 1 + 5; omega, by show _ ≤ 30 * (d + 1) + 130; omega⟩ ⟨Nat.le_of_ble_eq_true rfl, Nat.le_of_ble_eq_true rfl⟩ (Nat.le_of_ble_eq_true rfl) (fun σ1 h2 => ?_)
  obtain ⟨hq3, hx4⟩ := h2
  have hok5 := prs_ok P key d 3 o nt q lok
  rcases hr6 : prs P key d 3 o nt q with f7 | ⟨q8, c9, n10⟩
  · skip
    rw [hr6] at hq3
    refine r_aload_n hX dX10_test_4 rfl ?_
    refine r_bipush hX (nI 60) dX10_test_5 rfl ?_
    refine r_callVF (As := [.int (nI 60)]) (rest := []) hX (c_X10_isMarkB hM σ1 hq3.1 (nI 60)) dX10_test_7 cb_X10_285 (hM.1 0 (9, 0) rfl) rfl rfl ⟨by show _ ≤ d + 1 + 5; omega, by show _ ≤ 30 * (d + 1) + 130; omega⟩ ⟨Nat.le_of_ble_eq_true rfl, Nat.le_of_ble_eq_true rfl⟩ (Nat.le_of_ble_eq_true rfl) ?_
    refine r_ifN_ne hX dX10_test_10 (by decide) (fun c11 => absurd c11 (by decide)) (fun c11 => ?_)
    refine r_aload_n hX dX10_test_13 rfl ?_
    refine r_bipush hX (nI 61) dX10_test_14 rfl ?_
    refine r_callVF (As := [.int (nI 61)]) (rest := []) hX (c_X10_isMarkB hM σ1 hq3.1 (nI 61)) dX10_test_16 cb_X10_285 (hM.1 0 (9, 0) rfl) rfl rfl ⟨by show _ ≤ d + 1 + 5; omega, by show _ ≤ 30 * (d + 1) + 130; omega⟩ ⟨Nat.le_of_ble_eq_true rfl, Nat.le_of_ble_eq_true rfl⟩ (Nat.le_of_ble_eq_true rfl) ?_
    refine r_ifN_ne hX dX10_test_19 (by decide) (fun c12 => absurd c12 (by decide)) (fun c12 => ?_)
    refine r_aload_n hX dX10_test_22 rfl ?_
    refine r_bipush hX (nI 62) dX10_test_23 rfl ?_
    refine r_callVF (As := [.int (nI 62)]) (rest := []) hX (c_X10_isMarkB hM σ1 hq3.1 (nI 62)) dX10_test_25 cb_X10_285 (hM.1 0 (9, 0) rfl) rfl rfl ⟨by show _ ≤ d + 1 + 5; omega, by show _ ≤ 30 * (d + 1) + 130; omega⟩ ⟨Nat.le_of_ble_eq_true rfl, Nat.le_of_ble_eq_true rfl⟩ (Nat.le_of_ble_eq_true rfl) ?_
    refine r_ifN_eq hX dX10_test_28 (by decide) (fun c13 => ?_) (fun c13 => absurd c13 (by decide))
    exact r_return hX hQ dX10_test_78 ⟨Nat.le_of_ble_eq_true rfl, Nat.le_of_ble_eq_true rfl⟩ (PV.mk ⟨by show PQ _ P key o nt C n (prs P key (d + 1) 2 o nt q); rw [prs_lv (by decide), hr6]; exact ⟨hq3.1, hq3.2⟩, (Ex.tr (Ex.rf σ) hx4)⟩)
  · skip
    rw [hr6] at hq3 hok5
    have hp14 : PS σ1 P key o nt q8 (C ++ c9) (n + n10) := hq3
    have hl15 : Lok P q8 ∧ q.1 + c9.length ≤ q8.1 ∧ q.1 < q8.1 := hok5
    have := hl15.1.2.1; have := hl15.1.2.2.1
    refine r_aload_n hX dX10_test_4 rfl ?_
    refine r_bipush hX (nI 60) dX10_test_5 rfl ?_
    refine r_callVF (As := [.int (nI 60)]) (rest := []) hX (c_X10_isMark hM σ1 P key o nt q8 (C ++ c9) (n + n10) hp14 hl15.1 60 (by decide)) dX10_test_7 cb_X10_285 (hM.1 0 (9, 0) rfl) rfl rfl ⟨by show _ ≤ d + 1 + 5; omega, by show _ ≤ 30 * (d + 1) + 130; omega⟩ ⟨Nat.le_of_ble_eq_true rfl, Nat.le_of_ble_eq_true rfl⟩ (Nat.le_of_ble_eq_true rfl) ?_
    refine r_ifB_ne hX dX10_test_10 (fun c16 => ?_) (fun c16 => ?_)
    · skip
      refine r_aload_n hX dX10_test_31 rfl ?_
      refine r_getIV hX dX10_test_32 fl_X10_252 (hM.1 0 (9, 0) rfl) rfl (nI 60) ((hp14).2.1.2.2.2.2.1.trans (congrArg nI (vl_sg c16))) ?_
      refine r_bipush hX (nI 60) dX10_test_35 rfl ?_
      refine r_icmpN_ne hX dX10_test_37 (by decide) (by decide) (fun c17 => absurd c17 (by decide)) (fun c17 => ?_)
      refine r_sipush hX (nI 20003) dX10_test_40 rfl ?_
      refine r_goto hX dX10_test_43 ?_
      refine r_istore_n hX [(0, .ref (L.1 0)), (1, .int (nI 20003))] dX10_test_64 hN1 rfl ?_
      refine r_aload_n hX dX10_test_65 rfl ?_
      refine r_callVV (As := []) (rest := []) hX (c_X10_next hM σ1 P (hp14).1 q8.2.2.1 (wwB q8) (hp14).2.1.1 (hp14).2.1.2.2.2.2.2 (hl15.1).2.2.1) dX10_test_66 cb_X10_294 (hM.1 0 (9, 0) rfl) rfl rfl ⟨by show _ ≤ d + 1 + 5; omega, by show _ ≤ 30 * (d + 1) + 130; omega⟩ ⟨Nat.le_of_ble_eq_true rfl, Nat.le_of_ble_eq_true rfl⟩ (Nat.le_of_ble_eq_true rfl) (fun σ18 h19 => ?_)
      obtain ⟨hl20, hx21⟩ := h19
      have hp22 : PS σ18 P key o nt (nxq P q8) (C ++ c9) (n + n10) := PS.nx hp14 hx21 hl20
      have hlok23 := (hl15.1).nx
      refine r_aload_n hX dX10_test_69 rfl ?_
      refine r_callVV (As := []) (rest := []) hX (by rw [hl, hD]; exact hsub σ18 (nxq P q8) (C ++ c9) (n + n10) hp22 hlok23.1 (by (try simp only [List.length_append, List.length_cons, List.length_nil]); omega)) dX10_test_70 cb_X10_319 (hM.1 0 (9, 0) rfl) rfl rfl ⟨by show _ ≤ d + 1 + 5; omega, by show _ ≤ 30 * (d + 1) + 130; omega⟩ ⟨Nat.le_of_ble_eq_true rfl, Nat.le_of_ble_eq_true rfl⟩ (Nat.le_of_ble_eq_true rfl) (fun σ24 h25 => ?_)
      obtain ⟨hq26, hx27⟩ := h25
      have hok28 := prs_ok P key d 3 o nt (nxq P q8) hlok23.1
      rcases hr29 : prs P key d 3 o nt (nxq P q8) with f30 | ⟨q31, c32, n33⟩
      · skip
        rw [hr29] at hq26
        refine r_aload_n hX dX10_test_73 rfl ?_
        refine r_iload_n hX dX10_test_74 rfl ?_
        refine r_callVV (As := [.int (nI 20003)]) (rest := []) hX (c_X10_emitB hM σ24 hq26.1 (nI 20003)) dX10_test_75 cb_X10_300 (hM.1 0 (9, 0) rfl) rfl rfl ⟨by show _ ≤ d + 1 + 5; omega, by show _ ≤ 30 * (d + 1) + 130; omega⟩ ⟨Nat.le_of_ble_eq_true rfl, Nat.le_of_ble_eq_true rfl⟩ (Nat.le_of_ble_eq_true rfl) (fun σ34 h35 => ?_)
        replace h35 := h35.symm
        subst h35
        exact r_return hX hQ dX10_test_78 ⟨Nat.le_of_ble_eq_true rfl, Nat.le_of_ble_eq_true rfl⟩ (PV.mk ⟨by show PQ _ P key o nt C n (prs P key (d + 1) 2 o nt q); rw [prs_lv (by decide), hr6]; show PQ _ P key o nt C n (lpr _ P 2 (96 + 1) q8 c9 n10); rw [lpr_y (lv := 2) c16 rfl, hr29]; exact ⟨hq26.1, hq26.2⟩, (Ex.tr (Ex.tr (Ex.tr (Ex.rf σ) hx4) (pX_pY hx21)) hx27)⟩)
      · skip
        rw [hr29] at hq26 hok28
        have hp36 : PS σ24 P key o nt q31 ((C ++ c9) ++ c32) (n + n10 + n33) := hq26
        have hl37 : Lok P q31 ∧ (nxq P q8).1 + c32.length ≤ q31.1 ∧ (nxq P q8).1 < q31.1 := hok28
        have := hl37.1.2.1; have := hl37.1.2.2.1
        refine r_aload_n hX dX10_test_73 rfl ?_
        refine r_iload_n hX dX10_test_74 rfl ?_
        refine r_callVV (As := [.int (nI 20003)]) (rest := []) hX (c_X10_emit hM σ24 P key o nt q31 ((C ++ c9) ++ c32) (n + n10 + n33) hp36 hl37.1 20003 (by (try simp only [List.length_append, List.length_cons, List.length_nil]); omega)) dX10_test_75 cb_X10_300 (hM.1 0 (9, 0) rfl) rfl rfl ⟨by show _ ≤ d + 1 + 5; omega, by show _ ≤ 30 * (d + 1) + 130; omega⟩ ⟨Nat.le_of_ble_eq_true rfl, Nat.le_of_ble_eq_true rfl⟩ (Nat.le_of_ble_eq_true rfl) (fun σ38 h39 => ?_)
        obtain ⟨hp40, hx41⟩ := h39
        exact r_return hX hQ dX10_test_78 ⟨Nat.le_of_ble_eq_true rfl, Nat.le_of_ble_eq_true rfl⟩ (PV.mk ⟨by show PQ _ P key o nt C n (prs P key (d + 1) 2 o nt q); rw [prs_lv (by decide), hr6]; show PQ _ P key o nt C n (lpr _ P 2 (96 + 1) q8 c9 n10); rw [lpr_y (lv := 2) c16 rfl, hr29]; show PS _ P key o nt q31 (C ++ (c9 ++ c32 ++ [20003])) (n + (n10 + n33)); exact PS.as hp40 (by simp only [List.append_assoc]) (by omega), (Ex.tr (Ex.tr (Ex.tr (Ex.tr (Ex.rf σ) hx4) (pX_pY hx21)) hx27) hx41)⟩)
    · skip
      refine r_aload_n hX dX10_test_13 rfl ?_
      refine r_bipush hX (nI 61) dX10_test_14 rfl ?_
      refine r_callVF (As := [.int (nI 61)]) (rest := []) hX (c_X10_isMark hM σ1 P key o nt q8 (C ++ c9) (n + n10) hp14 hl15.1 61 (by decide)) dX10_test_16 cb_X10_285 (hM.1 0 (9, 0) rfl) rfl rfl ⟨by show _ ≤ d + 1 + 5; omega, by show _ ≤ 30 * (d + 1) + 130; omega⟩ ⟨Nat.le_of_ble_eq_true rfl, Nat.le_of_ble_eq_true rfl⟩ (Nat.le_of_ble_eq_true rfl) ?_
      refine r_ifB_ne hX dX10_test_19 (fun c42 => ?_) (fun c42 => ?_)
      · skip
        refine r_aload_n hX dX10_test_31 rfl ?_
        refine r_getIV hX dX10_test_32 fl_X10_252 (hM.1 0 (9, 0) rfl) rfl (nI 61) ((hp14).2.1.2.2.2.2.1.trans (congrArg nI (vl_sg c42))) ?_
        refine r_bipush hX (nI 60) dX10_test_35 rfl ?_
        refine r_icmpN_ne hX dX10_test_37 (by decide) (by decide) (fun c43 => ?_) (fun c43 => absurd c43 (by decide))
        refine r_aload_n hX dX10_test_46 rfl ?_
        refine r_getIV hX dX10_test_47 fl_X10_252 (hM.1 0 (9, 0) rfl) rfl (nI 61) ((hp14).2.1.2.2.2.2.1.trans (congrArg nI (vl_sg c42))) ?_
        refine r_bipush hX (nI 61) dX10_test_50 rfl ?_
        refine r_icmpN_ne hX dX10_test_52 (by decide) (by decide) (fun c44 => absurd c44 (by decide)) (fun c44 => ?_)
        refine r_sipush hX (nI 20004) dX10_test_55 rfl ?_
        refine r_goto hX dX10_test_58 ?_
        refine r_istore_n hX [(0, .ref (L.1 0)), (1, .int (nI 20004))] dX10_test_64 hN1 rfl ?_
        refine r_aload_n hX dX10_test_65 rfl ?_
        refine r_callVV (As := []) (rest := []) hX (c_X10_next hM σ1 P (hp14).1 q8.2.2.1 (wwB q8) (hp14).2.1.1 (hp14).2.1.2.2.2.2.2 (hl15.1).2.2.1) dX10_test_66 cb_X10_294 (hM.1 0 (9, 0) rfl) rfl rfl ⟨by show _ ≤ d + 1 + 5; omega, by show _ ≤ 30 * (d + 1) + 130; omega⟩ ⟨Nat.le_of_ble_eq_true rfl, Nat.le_of_ble_eq_true rfl⟩ (Nat.le_of_ble_eq_true rfl) (fun σ45 h46 => ?_)
        obtain ⟨hl47, hx48⟩ := h46
        have hp49 : PS σ45 P key o nt (nxq P q8) (C ++ c9) (n + n10) := PS.nx hp14 hx48 hl47
        have hlok50 := (hl15.1).nx
        refine r_aload_n hX dX10_test_69 rfl ?_
        refine r_callVV (As := []) (rest := []) hX (by rw [hl, hD]; exact hsub σ45 (nxq P q8) (C ++ c9) (n + n10) hp49 hlok50.1 (by (try simp only [List.length_append, List.length_cons, List.length_nil]); omega)) dX10_test_70 cb_X10_319 (hM.1 0 (9, 0) rfl) rfl rfl ⟨by show _ ≤ d + 1 + 5; omega, by show _ ≤ 30 * (d + 1) + 130; omega⟩ ⟨Nat.le_of_ble_eq_true rfl, Nat.le_of_ble_eq_true rfl⟩ (Nat.le_of_ble_eq_true rfl) (fun σ51 h52 => ?_)
        obtain ⟨hq53, hx54⟩ := h52
        have hok55 := prs_ok P key d 3 o nt (nxq P q8) hlok50.1
        rcases hr56 : prs P key d 3 o nt (nxq P q8) with f57 | ⟨q58, c59, n60⟩
        · skip
          rw [hr56] at hq53
          refine r_aload_n hX dX10_test_73 rfl ?_
          refine r_iload_n hX dX10_test_74 rfl ?_
          refine r_callVV (As := [.int (nI 20004)]) (rest := []) hX (c_X10_emitB hM σ51 hq53.1 (nI 20004)) dX10_test_75 cb_X10_300 (hM.1 0 (9, 0) rfl) rfl rfl ⟨by show _ ≤ d + 1 + 5; omega, by show _ ≤ 30 * (d + 1) + 130; omega⟩ ⟨Nat.le_of_ble_eq_true rfl, Nat.le_of_ble_eq_true rfl⟩ (Nat.le_of_ble_eq_true rfl) (fun σ61 h62 => ?_)
          replace h62 := h62.symm
          subst h62
          exact r_return hX hQ dX10_test_78 ⟨Nat.le_of_ble_eq_true rfl, Nat.le_of_ble_eq_true rfl⟩ (PV.mk ⟨by show PQ _ P key o nt C n (prs P key (d + 1) 2 o nt q); rw [prs_lv (by decide), hr6]; show PQ _ P key o nt C n (lpr _ P 2 (96 + 1) q8 c9 n10); rw [lpr_y (lv := 2) c42 rfl, hr56]; exact ⟨hq53.1, hq53.2⟩, (Ex.tr (Ex.tr (Ex.tr (Ex.rf σ) hx4) (pX_pY hx48)) hx54)⟩)
        · skip
          rw [hr56] at hq53 hok55
          have hp63 : PS σ51 P key o nt q58 ((C ++ c9) ++ c59) (n + n10 + n60) := hq53
          have hl64 : Lok P q58 ∧ (nxq P q8).1 + c59.length ≤ q58.1 ∧ (nxq P q8).1 < q58.1 := hok55
          have := hl64.1.2.1; have := hl64.1.2.2.1
          refine r_aload_n hX dX10_test_73 rfl ?_
          refine r_iload_n hX dX10_test_74 rfl ?_
          refine r_callVV (As := [.int (nI 20004)]) (rest := []) hX (c_X10_emit hM σ51 P key o nt q58 ((C ++ c9) ++ c59) (n + n10 + n60) hp63 hl64.1 20004 (by (try simp only [List.length_append, List.length_cons, List.length_nil]); omega)) dX10_test_75 cb_X10_300 (hM.1 0 (9, 0) rfl) rfl rfl ⟨by show _ ≤ d + 1 + 5; omega, by show _ ≤ 30 * (d + 1) + 130; omega⟩ ⟨Nat.le_of_ble_eq_true rfl, Nat.le_of_ble_eq_true rfl⟩ (Nat.le_of_ble_eq_true rfl) (fun σ65 h66 => ?_)
          obtain ⟨hp67, hx68⟩ := h66
          exact r_return hX hQ dX10_test_78 ⟨Nat.le_of_ble_eq_true rfl, Nat.le_of_ble_eq_true rfl⟩ (PV.mk ⟨by show PQ _ P key o nt C n (prs P key (d + 1) 2 o nt q); rw [prs_lv (by decide), hr6]; show PQ _ P key o nt C n (lpr _ P 2 (96 + 1) q8 c9 n10); rw [lpr_y (lv := 2) c42 rfl, hr56]; show PS _ P key o nt q58 (C ++ (c9 ++ c59 ++ [20004])) (n + (n10 + n60)); exact PS.as hp67 (by simp only [List.append_assoc]) (by omega), (Ex.tr (Ex.tr (Ex.tr (Ex.tr (Ex.rf σ) hx4) (pX_pY hx48)) hx54) hx68)⟩)
      · skip
        refine r_aload_n hX dX10_test_22 rfl ?_
        refine r_bipush hX (nI 62) dX10_test_23 rfl ?_
        refine r_callVF (As := [.int (nI 62)]) (rest := []) hX (c_X10_isMark hM σ1 P key o nt q8 (C ++ c9) (n + n10) hp14 hl15.1 62 (by decide)) dX10_test_25 cb_X10_285 (hM.1 0 (9, 0) rfl) rfl rfl ⟨by show _ ≤ d + 1 + 5; omega, by show _ ≤ 30 * (d + 1) + 130; omega⟩ ⟨Nat.le_of_ble_eq_true rfl, Nat.le_of_ble_eq_true rfl⟩ (Nat.le_of_ble_eq_true rfl) ?_
        refine r_ifB_eq hX dX10_test_28 (fun c69 => ?_) (fun c69 => ?_)
        · skip
          exact r_return hX hQ dX10_test_78 ⟨Nat.le_of_ble_eq_true rfl, Nat.le_of_ble_eq_true rfl⟩ (PV.mk ⟨by show PQ _ P key o nt C n (prs P key (d + 1) 2 o nt q); rw [prs_lv (by decide), hr6]; show PQ _ P key o nt C n (lpr _ P 2 97 q8 c9 n10); rw [lpr_no (lvq_no (by decide) (fun v hv => by rcases opl_2 hv with rfl | rfl | rfl; exact c16; exact c42; exact c69))]; exact hp14, (Ex.tr (Ex.rf σ) hx4)⟩)
        · skip
          refine r_aload_n hX dX10_test_31 rfl ?_
          refine r_getIV hX dX10_test_32 fl_X10_252 (hM.1 0 (9, 0) rfl) rfl (nI 62) ((hp14).2.1.2.2.2.2.1.trans (congrArg nI (vl_sg c69))) ?_
          refine r_bipush hX (nI 60) dX10_test_35 rfl ?_
          refine r_icmpN_ne hX dX10_test_37 (by decide) (by decide) (fun c70 => ?_) (fun c70 => absurd c70 (by decide))
          refine r_aload_n hX dX10_test_46 rfl ?_
          refine r_getIV hX dX10_test_47 fl_X10_252 (hM.1 0 (9, 0) rfl) rfl (nI 62) ((hp14).2.1.2.2.2.2.1.trans (congrArg nI (vl_sg c69))) ?_
          refine r_bipush hX (nI 61) dX10_test_50 rfl ?_
          refine r_icmpN_ne hX dX10_test_52 (by decide) (by decide) (fun c71 => ?_) (fun c71 => absurd c71 (by decide))
          refine r_sipush hX (nI 20005) dX10_test_61 rfl ?_
          refine r_istore_n hX [(0, .ref (L.1 0)), (1, .int (nI 20005))] dX10_test_64 hN1 rfl ?_
          refine r_aload_n hX dX10_test_65 rfl ?_
          refine r_callVV (As := []) (rest := []) hX (c_X10_next hM σ1 P (hp14).1 q8.2.2.1 (wwB q8) (hp14).2.1.1 (hp14).2.1.2.2.2.2.2 (hl15.1).2.2.1) dX10_test_66 cb_X10_294 (hM.1 0 (9, 0) rfl) rfl rfl ⟨by show _ ≤ d + 1 + 5; omega, by show _ ≤ 30 * (d + 1) + 130; omega⟩ ⟨Nat.le_of_ble_eq_true rfl, Nat.le_of_ble_eq_true rfl⟩ (Nat.le_of_ble_eq_true rfl) (fun σ72 h73 => ?_)
          obtain ⟨hl74, hx75⟩ := h73
          have hp76 : PS σ72 P key o nt (nxq P q8) (C ++ c9) (n + n10) := PS.nx hp14 hx75 hl74
          have hlok77 := (hl15.1).nx
          refine r_aload_n hX dX10_test_69 rfl ?_
          refine r_callVV (As := []) (rest := []) hX (by rw [hl, hD]; exact hsub σ72 (nxq P q8) (C ++ c9) (n + n10) hp76 hlok77.1 (by (try simp only [List.length_append, List.length_cons, List.length_nil]); omega)) dX10_test_70 cb_X10_319 (hM.1 0 (9, 0) rfl) rfl rfl ⟨by show _ ≤ d + 1 + 5; omega, by show _ ≤ 30 * (d + 1) + 130; omega⟩ ⟨Nat.le_of_ble_eq_true rfl, Nat.le_of_ble_eq_true rfl⟩ (Nat.le_of_ble_eq_true rfl) (fun σ78 h79 => ?_)
          obtain ⟨hq80, hx81⟩ := h79
          have hok82 := prs_ok P key d 3 o nt (nxq P q8) hlok77.1
          rcases hr83 : prs P key d 3 o nt (nxq P q8) with f84 | ⟨q85, c86, n87⟩
          · skip
            rw [hr83] at hq80
            refine r_aload_n hX dX10_test_73 rfl ?_
            refine r_iload_n hX dX10_test_74 rfl ?_
            refine r_callVV (As := [.int (nI 20005)]) (rest := []) hX (c_X10_emitB hM σ78 hq80.1 (nI 20005)) dX10_test_75 cb_X10_300 (hM.1 0 (9, 0) rfl) rfl rfl ⟨by show _ ≤ d + 1 + 5; omega, by show _ ≤ 30 * (d + 1) + 130; omega⟩ ⟨Nat.le_of_ble_eq_true rfl, Nat.le_of_ble_eq_true rfl⟩ (Nat.le_of_ble_eq_true rfl) (fun σ88 h89 => ?_)
            replace h89 := h89.symm
            subst h89
            exact r_return hX hQ dX10_test_78 ⟨Nat.le_of_ble_eq_true rfl, Nat.le_of_ble_eq_true rfl⟩ (PV.mk ⟨by show PQ _ P key o nt C n (prs P key (d + 1) 2 o nt q); rw [prs_lv (by decide), hr6]; show PQ _ P key o nt C n (lpr _ P 2 (96 + 1) q8 c9 n10); rw [lpr_y (lv := 2) c69 rfl, hr83]; exact ⟨hq80.1, hq80.2⟩, (Ex.tr (Ex.tr (Ex.tr (Ex.rf σ) hx4) (pX_pY hx75)) hx81)⟩)
          · skip
            rw [hr83] at hq80 hok82
            have hp90 : PS σ78 P key o nt q85 ((C ++ c9) ++ c86) (n + n10 + n87) := hq80
            have hl91 : Lok P q85 ∧ (nxq P q8).1 + c86.length ≤ q85.1 ∧ (nxq P q8).1 < q85.1 := hok82
            have := hl91.1.2.1; have := hl91.1.2.2.1
            refine r_aload_n hX dX10_test_73 rfl ?_
            refine r_iload_n hX dX10_test_74 rfl ?_
            refine r_callVV (As := [.int (nI 20005)]) (rest := []) hX (c_X10_emit hM σ78 P key o nt q85 ((C ++ c9) ++ c86) (n + n10 + n87) hp90 hl91.1 20005 (by (try simp only [List.length_append, List.length_cons, List.length_nil]); omega)) dX10_test_75 cb_X10_300 (hM.1 0 (9, 0) rfl) rfl rfl ⟨by show _ ≤ d + 1 + 5; omega, by show _ ≤ 30 * (d + 1) + 130; omega⟩ ⟨Nat.le_of_ble_eq_true rfl, Nat.le_of_ble_eq_true rfl⟩ (Nat.le_of_ble_eq_true rfl) (fun σ92 h93 => ?_)
            obtain ⟨hp94, hx95⟩ := h93
            exact r_return hX hQ dX10_test_78 ⟨Nat.le_of_ble_eq_true rfl, Nat.le_of_ble_eq_true rfl⟩ (PV.mk ⟨by show PQ _ P key o nt C n (prs P key (d + 1) 2 o nt q); rw [prs_lv (by decide), hr6]; show PQ _ P key o nt C n (lpr _ P 2 (96 + 1) q8 c9 n10); rw [lpr_y (lv := 2) c69 rfl, hr83]; show PS _ P key o nt q85 (C ++ (c9 ++ c86 ++ [20005])) (n + (n10 + n87)); exact PS.as hp94 (by simp only [List.append_assoc]) (by omega), (Ex.tr (Ex.tr (Ex.tr (Ex.tr (Ex.rf σ) hx4) (pX_pY hx75)) hx81) hx95)⟩)

set_option maxHeartbeats 4000000 in
set_option maxRecDepth 100000 in
theorem c_X10_both {l : Launch} {D : Ds} {L : La} (hM : MAt L) (d : Nat) (P : Tp) (key o nt : Nat) (hsub : ∀ (σ : Me) (q : Lx) (C : List Nat) (n : Nat), PS σ P key o nt q C n → Lok P q → C.length ≤ q.1 → Ct l yX10_test cX10_test 2 none { frames := d + 5, cells := 0, slots := 0, locals := 30 * (d) + 130 } D L σ [.ref (L.1 0)] (PV L (fun σ2 => PQ σ2 P key o nt C n (prs P key d 2 o nt q) ∧ Ex pY σ σ2))) (σ : Me) (q : Lx) (C : List Nat) (n : Nat) (hps : PS σ P key o nt q C n) (lok : Lok P q) (hCq : C.length ≤ q.1) : Ct l yX10_both cX10_both 1 none { frames := d + 1 + 5, cells := 0, slots := 0, locals := 30 * (d + 1) + 130 } D L σ [.ref (L.1 0)] (PV L (fun σ2 => PQ σ2 P key o nt C n (prs P key (d + 1) 1 o nt q) ∧ Ex pY σ σ2)) := by
  refine Ct.of (by decide) (Nat.le_of_ble_eq_true rfl) ?_
  intro X hl hD hnl hX0 hQ
  have hX : Ok X cX10_both RX10 "both" { frames := d + 1 + 5, cells := 0, slots := 0, locals := 30 * (d + 1) + 130 } none := hX0
  have hP96 := hps.1.2.1
  have := lok.2.1; have := lok.2.2.1
  show At X L σ 0 0 [(0, .ref (L.1 0))] 0 []
  refine r_aload_n hX dX10_both_0 rfl ?_
  refine r_callVV (As := []) (rest := []) hX (by rw [hl, hD]; exact hsub σ q C n hps lok (by (try simp only [List.length_append, List.length_cons, List.length_nil]); omega)) dX10_both_1 cb_X10_322 (hM.1 0 (9, 0) rfl) rfl rfl ⟨by show _ ≤ d + 1 + 5; omega, by show _ ≤ 30 * (d + 1) + 130; omega⟩ ⟨Nat.le_of_ble_eq_true rfl, Nat.le_of_ble_eq_true rfl⟩ (Nat.le_of_ble_eq_true rfl) (fun σ1 h2 => ?_)
  obtain ⟨hq3, hx4⟩ := h2
  have hok5 := prs_ok P key d 2 o nt q lok
  rcases hr6 : prs P key d 2 o nt q with f7 | ⟨q8, c9, n10⟩
  · skip
    rw [hr6] at hq3
    refine r_aload_n hX dX10_both_4 rfl ?_
    refine r_bipush hX (nI 38) dX10_both_5 rfl ?_
    refine r_callVF (As := [.int (nI 38)]) (rest := []) hX (c_X10_isMarkB hM σ1 hq3.1 (nI 38)) dX10_both_7 cb_X10_285 (hM.1 0 (9, 0) rfl) rfl rfl ⟨by show _ ≤ d + 1 + 5; omega, by show _ ≤ 30 * (d + 1) + 130; omega⟩ ⟨Nat.le_of_ble_eq_true rfl, Nat.le_of_ble_eq_true rfl⟩ (Nat.le_of_ble_eq_true rfl) ?_
    refine r_ifN_eq hX dX10_both_10 (by decide) (fun c11 => ?_) (fun c11 => absurd c11 (by decide))
    exact r_return hX hQ dX10_both_31 ⟨Nat.le_of_ble_eq_true rfl, Nat.le_of_ble_eq_true rfl⟩ (PV.mk ⟨by show PQ _ P key o nt C n (prs P key (d + 1) 1 o nt q); rw [prs_lv (by decide), hr6]; exact ⟨hq3.1, hq3.2⟩, (Ex.tr (Ex.rf σ) hx4)⟩)
  · skip
    rw [hr6] at hq3 hok5
    have hp12 : PS σ1 P key o nt q8 (C ++ c9) (n + n10) := hq3
    have hl13 : Lok P q8 ∧ q.1 + c9.length ≤ q8.1 ∧ q.1 < q8.1 := hok5
    have := hl13.1.2.1; have := hl13.1.2.2.1
    have P14 : ∀ k, k ≤ 97 → ∀ (qk : Lx) (ck : List Nat) (nk : Nat) (σk : Me) (hpk : PS σk P key o nt qk (C ++ ck) (n + nk)) (lokk : Lok P qk) (hlk : q.1 + ck.length ≤ qk.1) (hkq : k ≤ qk.1) (hEk : Ex pY σ σk) (hres : lpr (prs P key d 2 o nt) P 1 (97 - k) qk ck nk = prs P key (d + 1) 1 o nt q), At X L σk 0 0 [(0, .ref (L.1 0))] 4 [] := by
      refine loopUp 97 ?_ ?_
      · skip
        intro qk ck nk σk hpk lokk hlk hkq hEk hres
        exact absurd hkq (by have := lokk.2.1; have := lokk.2.2.1; omega)
      · skip
        intro k hk97 ih15 qk ck nk σk hpk lokk hlk hkq hEk hres
        have := lokk.2.1; have := lokk.2.2.1
        refine r_aload_n hX dX10_both_4 rfl ?_
        refine r_bipush hX (nI 38) dX10_both_5 rfl ?_
        refine r_callVF (As := [.int (nI 38)]) (rest := []) hX (c_X10_isMark hM σk P key o nt qk (C ++ ck) (n + nk) hpk lokk 38 (by decide)) dX10_both_7 cb_X10_285 (hM.1 0 (9, 0) rfl) rfl rfl ⟨by show _ ≤ d + 1 + 5; omega, by show _ ≤ 30 * (d + 1) + 130; omega⟩ ⟨Nat.le_of_ble_eq_true rfl, Nat.le_of_ble_eq_true rfl⟩ (Nat.le_of_ble_eq_true rfl) ?_
        refine r_ifB_eq hX dX10_both_10 (fun c16 => ?_) (fun c16 => ?_)
        · skip
          exact r_return hX hQ dX10_both_31 ⟨Nat.le_of_ble_eq_true rfl, Nat.le_of_ble_eq_true rfl⟩ (PV.mk ⟨by show PQ _ P key o nt C n (prs P key (d + 1) 1 o nt q); rw [← hres, lpr_no (lvq_no (by decide) (fun v hv => by rw [opl_1 hv]; exact c16))]; exact hpk, hEk⟩)
        · skip
          refine r_aload_n hX dX10_both_13 rfl ?_
          refine r_callVV (As := []) (rest := []) hX (c_X10_next hM σk P (hpk).1 qk.2.2.1 (wwB qk) (hpk).2.1.1 (hpk).2.1.2.2.2.2.2 (lokk).2.2.1) dX10_both_14 cb_X10_294 (hM.1 0 (9, 0) rfl) rfl rfl ⟨by show _ ≤ d + 1 + 5; omega, by show _ ≤ 30 * (d + 1) + 130; omega⟩ ⟨Nat.le_of_ble_eq_true rfl, Nat.le_of_ble_eq_true rfl⟩ (Nat.le_of_ble_eq_true rfl) (fun σ17 h18 => ?_)
          obtain ⟨hl19, hx20⟩ := h18
          have hp21 : PS σ17 P key o nt (nxq P qk) (C ++ ck) (n + nk) := PS.nx hpk hx20 hl19
          have hlok22 := (lokk).nx
          refine r_aload_n hX dX10_both_17 rfl ?_
          refine r_callVV (As := []) (rest := []) hX (by rw [hl, hD]; exact hsub σ17 (nxq P qk) (C ++ ck) (n + nk) hp21 hlok22.1 (by (try simp only [List.length_append, List.length_cons, List.length_nil]); omega)) dX10_both_18 cb_X10_322 (hM.1 0 (9, 0) rfl) rfl rfl ⟨by show _ ≤ d + 1 + 5; omega, by show _ ≤ 30 * (d + 1) + 130; omega⟩ ⟨Nat.le_of_ble_eq_true rfl, Nat.le_of_ble_eq_true rfl⟩ (Nat.le_of_ble_eq_true rfl) (fun σ23 h24 => ?_)
          obtain ⟨hq25, hx26⟩ := h24
          have hok27 := prs_ok P key d 2 o nt (nxq P qk) hlok22.1
          rcases hr28 : prs P key d 2 o nt (nxq P qk) with f29 | ⟨q30, c31, n32⟩
          · skip
            rw [hr28] at hq25
            refine r_aload_n hX dX10_both_21 rfl ?_
            refine r_sipush hX (nI 20002) dX10_both_22 rfl ?_
            refine r_callVV (As := [.int (nI 20002)]) (rest := []) hX (c_X10_emitB hM σ23 hq25.1 (nI 20002)) dX10_both_25 cb_X10_300 (hM.1 0 (9, 0) rfl) rfl rfl ⟨by show _ ≤ d + 1 + 5; omega, by show _ ≤ 30 * (d + 1) + 130; omega⟩ ⟨Nat.le_of_ble_eq_true rfl, Nat.le_of_ble_eq_true rfl⟩ (Nat.le_of_ble_eq_true rfl) (fun σ33 h34 => ?_)
            replace h34 := h34.symm
            subst h34
            refine r_goto hX dX10_both_28 ?_
            refine r_aload_n hX dX10_both_4 rfl ?_
            refine r_bipush hX (nI 38) dX10_both_5 rfl ?_
            refine r_callVF (As := [.int (nI 38)]) (rest := []) hX (c_X10_isMarkB hM σ23 hq25.1 (nI 38)) dX10_both_7 cb_X10_285 (hM.1 0 (9, 0) rfl) rfl rfl ⟨by show _ ≤ d + 1 + 5; omega, by show _ ≤ 30 * (d + 1) + 130; omega⟩ ⟨Nat.le_of_ble_eq_true rfl, Nat.le_of_ble_eq_true rfl⟩ (Nat.le_of_ble_eq_true rfl) ?_
            refine r_ifN_eq hX dX10_both_10 (by decide) (fun c35 => ?_) (fun c35 => absurd c35 (by decide))
            exact r_return hX hQ dX10_both_31 ⟨Nat.le_of_ble_eq_true rfl, Nat.le_of_ble_eq_true rfl⟩ (PV.mk ⟨by show PQ _ P key o nt C n (prs P key (d + 1) 1 o nt q); rw [← hres, show 97 - k = (96 - k) + 1 by omega, lpr_y (lv := 1) c16 rfl, hr28]; exact ⟨hq25.1, hq25.2⟩, (Ex.tr (Ex.tr hEk (pX_pY hx20)) hx26)⟩)
          · skip
            rw [hr28] at hq25 hok27
            have hp36 : PS σ23 P key o nt q30 ((C ++ ck) ++ c31) (n + nk + n32) := hq25
            have hl37 : Lok P q30 ∧ (nxq P qk).1 + c31.length ≤ q30.1 ∧ (nxq P qk).1 < q30.1 := hok27
            have := hl37.1.2.1; have := hl37.1.2.2.1
            refine r_aload_n hX dX10_both_21 rfl ?_
            refine r_sipush hX (nI 20002) dX10_both_22 rfl ?_
            refine r_callVV (As := [.int (nI 20002)]) (rest := []) hX (c_X10_emit hM σ23 P key o nt q30 ((C ++ ck) ++ c31) (n + nk + n32) hp36 hl37.1 20002 (by (try simp only [List.length_append, List.length_cons, List.length_nil]); omega)) dX10_both_25 cb_X10_300 (hM.1 0 (9, 0) rfl) rfl rfl ⟨by show _ ≤ d + 1 + 5; omega, by show _ ≤ 30 * (d + 1) + 130; omega⟩ ⟨Nat.le_of_ble_eq_true rfl, Nat.le_of_ble_eq_true rfl⟩ (Nat.le_of_ble_eq_true rfl) (fun σ38 h39 => ?_)
            obtain ⟨hp40, hx41⟩ := h39
            refine r_goto hX dX10_both_28 ?_
            exact At.to (ih15 q30 (ck ++ c31 ++ [20002]) (nk + n32) σ38 (PS.as hp40 (by simp only [List.append_assoc]) (by omega)) hl37.1 (by simp only [List.length_append, List.length_cons, List.length_nil]; have := sg_lt lokk c16; omega) (by have := sg_lt lokk c16; omega) (Ex.tr (Ex.tr (Ex.tr hEk (pX_pY hx20)) hx26) hx41) (by rw [← hres, show 97 - k = (97 - (k + 1)) + 1 by omega, lpr_y (lv := 1) c16 rfl, hr28]; rfl)) rfl rfl rfl
    exact At.to (P14 0 (Nat.zero_le _) q8 c9 n10 σ1 hp12 hl13.1 hl13.2.1 (Nat.zero_le _) (Ex.tr (Ex.rf σ) hx4) (by rw [prs_lv (by decide), hr6]; rfl)) rfl rfl rfl

set_option maxHeartbeats 4000000 in
set_option maxRecDepth 100000 in
theorem c_X10_either {l : Launch} {D : Ds} {L : La} (hM : MAt L) (d : Nat) (P : Tp) (key o nt : Nat) (hsub : ∀ (σ : Me) (q : Lx) (C : List Nat) (n : Nat), PS σ P key o nt q C n → Lok P q → C.length ≤ q.1 → Ct l yX10_both cX10_both 1 none { frames := d + 5, cells := 0, slots := 0, locals := 30 * (d) + 130 } D L σ [.ref (L.1 0)] (PV L (fun σ2 => PQ σ2 P key o nt C n (prs P key d 1 o nt q) ∧ Ex pY σ σ2))) (σ : Me) (q : Lx) (C : List Nat) (n : Nat) (hps : PS σ P key o nt q C n) (lok : Lok P q) (hCq : C.length ≤ q.1) : Ct l yX10_either cX10_either 1 none { frames := d + 1 + 5, cells := 0, slots := 0, locals := 30 * (d + 1) + 130 } D L σ [.ref (L.1 0)] (PV L (fun σ2 => PQ σ2 P key o nt C n (prs P key (d + 1) 0 o nt q) ∧ Ex pY σ σ2)) := by
  refine Ct.of (by decide) (Nat.le_of_ble_eq_true rfl) ?_
  intro X hl hD hnl hX0 hQ
  have hX : Ok X cX10_either RX10 "either" { frames := d + 1 + 5, cells := 0, slots := 0, locals := 30 * (d + 1) + 130 } none := hX0
  have hP96 := hps.1.2.1
  have := lok.2.1; have := lok.2.2.1
  show At X L σ 0 0 [(0, .ref (L.1 0))] 0 []
  refine r_aload_n hX dX10_either_0 rfl ?_
  refine r_callVV (As := []) (rest := []) hX (by rw [hl, hD]; exact hsub σ q C n hps lok (by (try simp only [List.length_append, List.length_cons, List.length_nil]); omega)) dX10_either_1 cb_X10_325 (hM.1 0 (9, 0) rfl) rfl rfl ⟨by show _ ≤ d + 1 + 5; omega, by show _ ≤ 30 * (d + 1) + 130; omega⟩ ⟨Nat.le_of_ble_eq_true rfl, Nat.le_of_ble_eq_true rfl⟩ (Nat.le_of_ble_eq_true rfl) (fun σ1 h2 => ?_)
  obtain ⟨hq3, hx4⟩ := h2
  have hok5 := prs_ok P key d 1 o nt q lok
  rcases hr6 : prs P key d 1 o nt q with f7 | ⟨q8, c9, n10⟩
  · skip
    rw [hr6] at hq3
    refine r_aload_n hX dX10_either_4 rfl ?_
    refine r_bipush hX (nI 124) dX10_either_5 rfl ?_
    refine r_callVF (As := [.int (nI 124)]) (rest := []) hX (c_X10_isMarkB hM σ1 hq3.1 (nI 124)) dX10_either_7 cb_X10_285 (hM.1 0 (9, 0) rfl) rfl rfl ⟨by show _ ≤ d + 1 + 5; omega, by show _ ≤ 30 * (d + 1) + 130; omega⟩ ⟨Nat.le_of_ble_eq_true rfl, Nat.le_of_ble_eq_true rfl⟩ (Nat.le_of_ble_eq_true rfl) ?_
    refine r_ifN_eq hX dX10_either_10 (by decide) (fun c11 => ?_) (fun c11 => absurd c11 (by decide))
    exact r_return hX hQ dX10_either_31 ⟨Nat.le_of_ble_eq_true rfl, Nat.le_of_ble_eq_true rfl⟩ (PV.mk ⟨by show PQ _ P key o nt C n (prs P key (d + 1) 0 o nt q); rw [prs_lv (by decide), hr6]; exact ⟨hq3.1, hq3.2⟩, (Ex.tr (Ex.rf σ) hx4)⟩)
  · skip
    rw [hr6] at hq3 hok5
    have hp12 : PS σ1 P key o nt q8 (C ++ c9) (n + n10) := hq3
    have hl13 : Lok P q8 ∧ q.1 + c9.length ≤ q8.1 ∧ q.1 < q8.1 := hok5
    have := hl13.1.2.1; have := hl13.1.2.2.1
    have P14 : ∀ k, k ≤ 97 → ∀ (qk : Lx) (ck : List Nat) (nk : Nat) (σk : Me) (hpk : PS σk P key o nt qk (C ++ ck) (n + nk)) (lokk : Lok P qk) (hlk : q.1 + ck.length ≤ qk.1) (hkq : k ≤ qk.1) (hEk : Ex pY σ σk) (hres : lpr (prs P key d 1 o nt) P 0 (97 - k) qk ck nk = prs P key (d + 1) 0 o nt q), At X L σk 0 0 [(0, .ref (L.1 0))] 4 [] := by
      refine loopUp 97 ?_ ?_
      · skip
        intro qk ck nk σk hpk lokk hlk hkq hEk hres
        exact absurd hkq (by have := lokk.2.1; have := lokk.2.2.1; omega)
      · skip
        intro k hk97 ih15 qk ck nk σk hpk lokk hlk hkq hEk hres
        have := lokk.2.1; have := lokk.2.2.1
        refine r_aload_n hX dX10_either_4 rfl ?_
        refine r_bipush hX (nI 124) dX10_either_5 rfl ?_
        refine r_callVF (As := [.int (nI 124)]) (rest := []) hX (c_X10_isMark hM σk P key o nt qk (C ++ ck) (n + nk) hpk lokk 124 (by decide)) dX10_either_7 cb_X10_285 (hM.1 0 (9, 0) rfl) rfl rfl ⟨by show _ ≤ d + 1 + 5; omega, by show _ ≤ 30 * (d + 1) + 130; omega⟩ ⟨Nat.le_of_ble_eq_true rfl, Nat.le_of_ble_eq_true rfl⟩ (Nat.le_of_ble_eq_true rfl) ?_
        refine r_ifB_eq hX dX10_either_10 (fun c16 => ?_) (fun c16 => ?_)
        · skip
          exact r_return hX hQ dX10_either_31 ⟨Nat.le_of_ble_eq_true rfl, Nat.le_of_ble_eq_true rfl⟩ (PV.mk ⟨by show PQ _ P key o nt C n (prs P key (d + 1) 0 o nt q); rw [← hres, lpr_no (lvq_no (by decide) (fun v hv => by rw [opl_0 hv]; exact c16))]; exact hpk, hEk⟩)
        · skip
          refine r_aload_n hX dX10_either_13 rfl ?_
          refine r_callVV (As := []) (rest := []) hX (c_X10_next hM σk P (hpk).1 qk.2.2.1 (wwB qk) (hpk).2.1.1 (hpk).2.1.2.2.2.2.2 (lokk).2.2.1) dX10_either_14 cb_X10_294 (hM.1 0 (9, 0) rfl) rfl rfl ⟨by show _ ≤ d + 1 + 5; omega, by show _ ≤ 30 * (d + 1) + 130; omega⟩ ⟨Nat.le_of_ble_eq_true rfl, Nat.le_of_ble_eq_true rfl⟩ (Nat.le_of_ble_eq_true rfl) (fun σ17 h18 => ?_)
          obtain ⟨hl19, hx20⟩ := h18
          have hp21 : PS σ17 P key o nt (nxq P qk) (C ++ ck) (n + nk) := PS.nx hpk hx20 hl19
          have hlok22 := (lokk).nx
          refine r_aload_n hX dX10_either_17 rfl ?_
          refine r_callVV (As := []) (rest := []) hX (by rw [hl, hD]; exact hsub σ17 (nxq P qk) (C ++ ck) (n + nk) hp21 hlok22.1 (by (try simp only [List.length_append, List.length_cons, List.length_nil]); omega)) dX10_either_18 cb_X10_325 (hM.1 0 (9, 0) rfl) rfl rfl ⟨by show _ ≤ d + 1 + 5; omega, by show _ ≤ 30 * (d + 1) + 130; omega⟩ ⟨Nat.le_of_ble_eq_true rfl, Nat.le_of_ble_eq_true rfl⟩ (Nat.le_of_ble_eq_true rfl) (fun σ23 h24 => ?_)
          obtain ⟨hq25, hx26⟩ := h24
          have hok27 := prs_ok P key d 1 o nt (nxq P qk) hlok22.1
          rcases hr28 : prs P key d 1 o nt (nxq P qk) with f29 | ⟨q30, c31, n32⟩
          · skip
            rw [hr28] at hq25
            refine r_aload_n hX dX10_either_21 rfl ?_
            refine r_sipush hX (nI 20001) dX10_either_22 rfl ?_
            refine r_callVV (As := [.int (nI 20001)]) (rest := []) hX (c_X10_emitB hM σ23 hq25.1 (nI 20001)) dX10_either_25 cb_X10_300 (hM.1 0 (9, 0) rfl) rfl rfl ⟨by show _ ≤ d + 1 + 5; omega, by show _ ≤ 30 * (d + 1) + 130; omega⟩ ⟨Nat.le_of_ble_eq_true rfl, Nat.le_of_ble_eq_true rfl⟩ (Nat.le_of_ble_eq_true rfl) (fun σ33 h34 => ?_)
            replace h34 := h34.symm
            subst h34
            refine r_goto hX dX10_either_28 ?_
            refine r_aload_n hX dX10_either_4 rfl ?_
            refine r_bipush hX (nI 124) dX10_either_5 rfl ?_
            refine r_callVF (As := [.int (nI 124)]) (rest := []) hX (c_X10_isMarkB hM σ23 hq25.1 (nI 124)) dX10_either_7 cb_X10_285 (hM.1 0 (9, 0) rfl) rfl rfl ⟨by show _ ≤ d + 1 + 5; omega, by show _ ≤ 30 * (d + 1) + 130; omega⟩ ⟨Nat.le_of_ble_eq_true rfl, Nat.le_of_ble_eq_true rfl⟩ (Nat.le_of_ble_eq_true rfl) ?_
            refine r_ifN_eq hX dX10_either_10 (by decide) (fun c35 => ?_) (fun c35 => absurd c35 (by decide))
            exact r_return hX hQ dX10_either_31 ⟨Nat.le_of_ble_eq_true rfl, Nat.le_of_ble_eq_true rfl⟩ (PV.mk ⟨by show PQ _ P key o nt C n (prs P key (d + 1) 0 o nt q); rw [← hres, show 97 - k = (96 - k) + 1 by omega, lpr_y (lv := 0) c16 rfl, hr28]; exact ⟨hq25.1, hq25.2⟩, (Ex.tr (Ex.tr hEk (pX_pY hx20)) hx26)⟩)
          · skip
            rw [hr28] at hq25 hok27
            have hp36 : PS σ23 P key o nt q30 ((C ++ ck) ++ c31) (n + nk + n32) := hq25
            have hl37 : Lok P q30 ∧ (nxq P qk).1 + c31.length ≤ q30.1 ∧ (nxq P qk).1 < q30.1 := hok27
            have := hl37.1.2.1; have := hl37.1.2.2.1
            refine r_aload_n hX dX10_either_21 rfl ?_
            refine r_sipush hX (nI 20001) dX10_either_22 rfl ?_
            refine r_callVV (As := [.int (nI 20001)]) (rest := []) hX (c_X10_emit hM σ23 P key o nt q30 ((C ++ ck) ++ c31) (n + nk + n32) hp36 hl37.1 20001 (by (try simp only [List.length_append, List.length_cons, List.length_nil]); omega)) dX10_either_25 cb_X10_300 (hM.1 0 (9, 0) rfl) rfl rfl ⟨by show _ ≤ d + 1 + 5; omega, by show _ ≤ 30 * (d + 1) + 130; omega⟩ ⟨Nat.le_of_ble_eq_true rfl, Nat.le_of_ble_eq_true rfl⟩ (Nat.le_of_ble_eq_true rfl) (fun σ38 h39 => ?_)
            obtain ⟨hp40, hx41⟩ := h39
            refine r_goto hX dX10_either_28 ?_
            exact At.to (ih15 q30 (ck ++ c31 ++ [20001]) (nk + n32) σ38 (PS.as hp40 (by simp only [List.append_assoc]) (by omega)) hl37.1 (by simp only [List.length_append, List.length_cons, List.length_nil]; have := sg_lt lokk c16; omega) (by have := sg_lt lokk c16; omega) (Ex.tr (Ex.tr (Ex.tr hEk (pX_pY hx20)) hx26) hx41) (by rw [← hres, show 97 - k = (97 - (k + 1)) + 1 by omega, lpr_y (lv := 0) c16 rfl, hr28]; rfl)) rfl rfl rfl
    exact At.to (P14 0 (Nat.zero_le _) q8 c9 n10 σ1 hp12 hl13.1 hl13.2.1 (Nat.zero_le _) (Ex.tr (Ex.rf σ) hx4) (by rw [prs_lv (by decide), hr6]; rfl)) rfl rfl rfl
