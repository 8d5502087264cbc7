set_option maxHeartbeats 4000000 in
set_option maxRecDepth 100000 in
theorem c_X2_levelA {l : Launch} {D : Ds} {L : La}  (hA : CAt L) (P : Tp) (key d lv o nt : Nat) (hlv : lv < 5) (ho : o ≤ 8) (hnt : nt ≤ 8) (hsub : ∀ (σ : Me) (q : Lx) (C : List Nat) (n : Nat), PSc σ P key q C n → Lok P q → C.length + 1 ≤ q.1 → Ct l yX2_level cX2_level 6 none { frames := 2 * (d) + 11, cells := 0, slots := 0, locals := 50 * (d) + 325 } D L σ [.ref (L.1 105), .int (nI (lv + 1)), .int (nI o), .int (nI nt)] (PV L (fun σ2 => PQc σ2 P key C n (prs P key d (lv + 1) o nt q) ∧ Ex pYc σ σ2))) (σ : Me) (q : Lx) (C : List Nat) (n : Nat) (hps : PSc σ P key q C n) (lok : Lok P q) (hCq : C.length + 1 ≤ q.1) : Ct l yX2_level cX2_level 6 none { frames := 2 * (d + 1) + 11, cells := 0, slots := 0, locals := 50 * (d + 1) + 325 } D L σ [.ref (L.1 105), .int (nI lv), .int (nI o), .int (nI nt)] (PV L (fun σ2 => PQc σ2 P key C n (prs P key (d + 1) lv o nt q) ∧ Ex pYc σ σ2)) := by
  refine Ct.of (by decide) (Nat.le_of_ble_eq_true rfl) ?_
  intro X hl hD hnl hX0 hQ
  have hX : Ok X cX2_level RX2 "level" { frames := 2 * (d + 1) + 11, cells := 0, slots := 0, locals := 50 * (d + 1) + 325 } none := hX0
  have hN4 : 4 < xn X := by rw [hnl]; decide
  have hN5 : 5 < xn X := by rw [hnl]; decide
  have hP96 := hps.1.2.1
  have := lok.2.1; have := lok.2.2.1
  show At X L σ 0 0 [(0, .ref (L.1 105)), (1, .int (nI lv)), (2, .int (nI o)), (3, .int (nI nt))] 0 []
  refine r_iload_n hX dX2_level_0 rfl ?_
  refine r_iconst hX (nI 5) dX2_level_1 rfl ?_
  refine r_icmpN_lt hX dX2_level_2 (by omega) (by decide) (fun c1 => ?_) (fun c1 => absurd c1 (by omega))
  refine r_aload_n hX dX2_level_12 rfl ?_
  refine r_iload_n hX dX2_level_13 rfl ?_
  refine r_iconst hX (nI 1) dX2_level_14 rfl ?_
  refine r_iaddN hX dX2_level_15 ?_
  refine r_iload_n hX dX2_level_16 rfl ?_
  refine r_iload_n hX dX2_level_17 rfl ?_
  refine r_callVV (As := [.int (nI (lv + 1)), .int (nI o), .int (nI nt)]) (rest := []) hX (by rw [hl, hD]; exact hsub σ q C n hps lok (by (try simp only [List.length_append, List.length_cons, List.length_nil]); omega)) dX2_level_18 cb_X2_48 (hA.1 105 (1, 0) rfl) rfl rfl ⟨by show _ ≤ 2 * (d + 1) + 11; omega, by show _ ≤ 50 * (d + 1) + 325; omega⟩ ⟨Nat.le_of_ble_eq_true rfl, Nat.le_of_ble_eq_true rfl⟩ (Nat.le_of_ble_eq_true rfl) (fun σ2 h3 => ?_)
  obtain ⟨hq4, hx5⟩ := h3
  have hok6 := prs_ok P key d (lv + 1) o nt q lok
  rcases hr7 : prs P key d (lv + 1) o nt q with f8 | ⟨q9, c10, n11⟩
  · skip
    rw [hr7] at hq4 hok6
    have hq4 : FLc σ2 f8 := hq4
    have hflf8 : f8 ≤ P.1 := hok6.2
    refine r_iconst hX (nI 0) dX2_level_21 rfl ?_
    refine r_istore hX [(0, .ref (L.1 105)), (1, .int (nI lv)), (2, .int (nI o)), (3, .int (nI nt)), (4, .int (nI 0))] dX2_level_22 hN4 rfl ?_
    refine r_iload hX dX2_level_24 rfl ?_
    refine r_bipush hX (nI 96) dX2_level_26 rfl ?_
    refine r_icmpN_ge hX dX2_level_28 (by decide) (by decide) (fun c12 => absurd c12 (by omega)) (fun c12 => ?_)
    refine r_aload_n hX dX2_level_31 rfl ?_
    refine r_getIV hX dX2_level_32 fl_X2_25 (hA.1 105 (1, 0) rfl) rfl (nI f8) (hq4).1 ?_
    refine r_ifN_ge hX dX2_level_35 (by omega) ?_
    exact r_return hX hQ dX2_level_95 ⟨Nat.le_of_ble_eq_true rfl, Nat.le_of_ble_eq_true rfl⟩ (PV.mk ⟨by show PQc _ P key C n (prs P key (d + 1) lv o nt q); rw [prs_lv hlv, hr7]; exact hq4, (Ex.tr (Ex.rf σ) hx5)⟩)
  · skip
    rw [hr7] at hq4 hok6
    have hp13 : PSc σ2 P key q9 (C ++ c10) (n + n11) := hq4
    have hl14 : Lok P q9 ∧ q.1 + c10.length ≤ q9.1 ∧ q.1 < q9.1 := hok6
    have := hl14.1.2.1; have := hl14.1.2.2.1
    refine r_iconst hX (nI 0) dX2_level_21 rfl ?_
    refine r_istore hX [(0, .ref (L.1 105)), (1, .int (nI lv)), (2, .int (nI o)), (3, .int (nI nt)), (4, .int (nI 0))] dX2_level_22 hN4 rfl ?_
    have P15 : ∀ k, k ≤ 96 → ∀ (qk : Lx) (ck : List Nat) (nk : Nat) (σk : Me) (hpk : PSc σk P key qk (C ++ ck) (n + nk)) (lokk : Lok P qk) (hlk : q.1 + ck.length ≤ qk.1) (hkq : k + 1 ≤ qk.1) (hEk : Ex pYc σ σk) (hres : lpr (prs P key d (lv + 1) o nt) P lv (97 - k) qk ck nk = prs P key (d + 1) lv o nt q), At X L σk 0 0 [(0, .ref (L.1 105)), (1, .int (nI lv)), (2, .int (nI o)), (3, .int (nI nt)), (4, .int (nI k))] 24 [] := by
      refine loopUp 96 ?_ ?_
      · skip
        intro qk ck nk σk hpk lokk hlk hkq hEk hres
        exact absurd hkq (by have := lokk.2.1; have := lokk.2.2.1; omega)
      · skip
        intro k hk96 ih16 qk ck nk σk hpk lokk hlk hkq hEk hres
        have := lokk.2.1; have := lokk.2.2.1
        refine r_iload hX dX2_level_24 rfl ?_
        refine r_bipush hX (nI 96) dX2_level_26 rfl ?_
        refine r_icmpN_ge hX dX2_level_28 (by omega) (by decide) (fun c17 => absurd c17 (by omega)) (fun c17 => ?_)
        refine r_aload_n hX dX2_level_31 rfl ?_
        refine r_getIV hX dX2_level_32 fl_X2_25 (hA.1 105 (1, 0) rfl) rfl (-1) (hpk).2.2.1 ?_
        refine r_if_ge hX dX2_level_35 (fun c18 => absurd c18 (by decide)) (fun c18 => ?_)
        refine r_aload_n hX dX2_level_38 rfl ?_
        refine r_callVF (As := []) (rest := []) hX (c_X2_levelOfNext hA σk P key qk (C ++ ck) (n + nk) hpk lokk) dX2_level_39 cb_X2_97 (hA.1 105 (1, 0) rfl) rfl rfl ⟨by show _ ≤ 2 * (d + 1) + 11; omega, by show _ ≤ 50 * (d + 1) + 325; omega⟩ ⟨Nat.le_of_ble_eq_true rfl, Nat.le_of_ble_eq_true rfl⟩ (Nat.le_of_ble_eq_true rfl) ?_
        refine r_iload_n hX dX2_level_42 rfl ?_
        refine r_icmp_ne hX dX2_level_43 (fun c19 => ?_) (fun c19 => ?_)
        · skip
          exact r_return hX hQ dX2_level_95 ⟨Nat.le_of_ble_eq_true rfl, Nat.le_of_ble_eq_true rfl⟩ (PV.mk ⟨by show PQc _ P key C n (prs P key (d + 1) lv o nt q); rw [← hres, lpr_no (lvI_n hlv c19)]; exact hpk, hEk⟩)
        · skip
          have hlq := lvI_y hlv c19
          have hop : opl (P.2 qk.1) < 5 := by omega
          have h128 := opl_lt hop
          have hqlt := lokk.2.2.2 (by omega)
          have hmx := lokk.nx
          refine r_aload_n hX dX2_level_46 rfl ?_
          refine r_getR hX dX2_level_47 fl_X2_37 (hA.1 105 (1, 0) rfl) rfl (hA.2.1 105 0 103 rfl) ?_
          refine r_getR hX dX2_level_50 fl_X2_68 (hA.1 103 (5, 0) rfl) rfl (hA.2.1 103 0 104 rfl) ?_
          refine r_aload_n hX dX2_level_53 rfl ?_
          refine r_getIV hX dX2_level_54 fl_X2_31 (hA.1 105 (1, 0) rfl) rfl (nI qk.1) (hpk).2.1.2.1 ?_
          refine r_baldN hX dX2_level_57 (hA.1 104 (11, 96) rfl) (by decide) (by omega) (nI (P.2 qk.1)) ((hpk.1.2.2 qk.1 (by omega)).1.trans (sb_lt h128)) ?_
          refine r_istore hX [(0, .ref (L.1 105)), (1, .int (nI lv)), (2, .int (nI o)), (3, .int (nI nt)), (4, .int (nI k)), (5, .int (nI (P.2 qk.1)))] dX2_level_58 hN5 rfl ?_
          refine r_aload_n hX dX2_level_60 rfl ?_
          refine r_callVV (As := []) (rest := []) hX (c_X2_step hA σk P (hpk).1 qk.2.2.1 (nxN qk) (wwB qk) (lokk).2.2.1 (nxN_le _) (hpk).2.1.1 (hpk).2.1.2.2 (ww_nx (ok3 hlq.2.1))) dX2_level_61 cb_X2_41 (hA.1 105 (1, 0) rfl) rfl rfl ⟨by show _ ≤ 2 * (d + 1) + 11; omega, by show _ ≤ 50 * (d + 1) + 325; omega⟩ ⟨Nat.le_of_ble_eq_true rfl, Nat.le_of_ble_eq_true rfl⟩ (Nat.le_of_ble_eq_true rfl) (fun σ20 h21 => ?_)
          obtain ⟨hl22, hx23⟩ := h21
          have hp24 : PSc σ20 P key (nxq P qk) (C ++ ck) (n + nk) := PSc.nx hpk hx23 hl22
          have hlok25 := (lokk).nx
          refine r_aload_n hX dX2_level_64 rfl ?_
          refine r_iload_n hX dX2_level_65 rfl ?_
          refine r_iconst hX (nI 1) dX2_level_66 rfl ?_
          refine r_iaddN hX dX2_level_67 ?_
          refine r_iload_n hX dX2_level_68 rfl ?_
          refine r_iload_n hX dX2_level_69 rfl ?_
          have hmn1 := hlok25.2.1; have hmn2 := hlok25.2.2
          refine r_callVV (As := [.int (nI (lv + 1)), .int (nI o), .int (nI nt)]) (rest := []) hX (by rw [hl, hD]; exact hsub σ20 (nxq P qk) (C ++ ck) (n + nk) hp24 hlok25.1 (by (try simp only [List.length_append, List.length_cons, List.length_nil]); omega)) dX2_level_70 cb_X2_48 (hA.1 105 (1, 0) rfl) rfl rfl ⟨by show _ ≤ 2 * (d + 1) + 11; omega, by show _ ≤ 50 * (d + 1) + 325; omega⟩ ⟨Nat.le_of_ble_eq_true rfl, Nat.le_of_ble_eq_true rfl⟩ (Nat.le_of_ble_eq_true rfl) (fun σ26 h27 => ?_)
          obtain ⟨hq28, hx29⟩ := h27
          have hok30 := prs_ok P key d (lv + 1) o nt (nxq P qk) hlok25.1
          rcases hr31 : prs P key d (lv + 1) o nt (nxq P qk) with f32 | ⟨q33, c34, n35⟩
          · skip
            rw [hr31] at hq28 hok30
            have hq28 : FLc σ26 f32 := hq28
            have hflf32 : f32 ≤ P.1 := hok30.2
            refine r_aload_n hX dX2_level_73 rfl ?_
            refine r_sipush hX (nI 20000) dX2_level_74 rfl ?_
            refine r_iload hX dX2_level_77 rfl ?_
            refine r_iaddN hX dX2_level_79 ?_
            refine r_callVV (As := [.int (nI (20000 + (P.2 qk.1)))]) (rest := []) hX (c_X2_putB hA σ26 f32 hq28 (nI (20000 + (P.2 qk.1)))) dX2_level_80 cb_X2_100 (hA.1 105 (1, 0) rfl) rfl rfl ⟨by show _ ≤ 2 * (d + 1) + 11; omega, by show _ ≤ 50 * (d + 1) + 325; omega⟩ ⟨Nat.le_of_ble_eq_true rfl, Nat.le_of_ble_eq_true rfl⟩ (Nat.le_of_ble_eq_true rfl) (fun σ36 h37 => ?_)
            obtain ⟨hb38, hx39⟩ := h37
            refine r_iload_n hX dX2_level_83 rfl ?_
            refine r_iconst hX (nI 2) dX2_level_84 rfl ?_
            refine r_icmpN_ne hX dX2_level_85 (by omega) (by decide) (fun c40 => ?_) (fun c40 => ?_)
            · skip
              refine r_iincN (n := 1) hX [(0, .ref (L.1 105)), (1, .int (nI lv)), (2, .int (nI o)), (3, .int (nI nt)), (4, .int (nI (k + 1))), (5, .int (nI (P.2 qk.1)))] dX2_level_89 rfl hN4 rfl ?_
              refine r_goto hX dX2_level_92 ?_
              refine r_iload hX dX2_level_24 rfl ?_
              refine r_bipush hX (nI 96) dX2_level_26 rfl ?_
              refine r_icmpN_ge hX dX2_level_28 (by omega) (by decide) (fun c41 => ?_) (fun c41 => ?_)
              · skip
                exact r_return hX hQ dX2_level_95 ⟨Nat.le_of_ble_eq_true rfl, Nat.le_of_ble_eq_true rfl⟩ (PV.mk ⟨by show PQc _ P key C n (prs P key (d + 1) lv o nt q); rw [← hres, show 97 - k = (96 - k) + 1 by omega, lpr_yes hlq.1, hr31]; exact hb38, (Ex.tr (Ex.tr (Ex.tr hEk (pXc_pYc hx23)) hx29) hx39)⟩)
              · skip
                refine r_aload_n hX dX2_level_31 rfl ?_
                refine r_getIV hX dX2_level_32 fl_X2_25 (hA.1 105 (1, 0) rfl) rfl (nI f32) (hb38).1 ?_
                refine r_ifN_ge hX dX2_level_35 (by omega) ?_
                exact r_return hX hQ dX2_level_95 ⟨Nat.le_of_ble_eq_true rfl, Nat.le_of_ble_eq_true rfl⟩ (PV.mk ⟨by show PQc _ P key C n (prs P key (d + 1) lv o nt q); rw [← hres, show 97 - k = (96 - k) + 1 by omega, lpr_yes hlq.1, hr31]; exact hb38, (Ex.tr (Ex.tr (Ex.tr hEk (pXc_pYc hx23)) hx29) hx39)⟩)
            · skip
              exact r_return hX hQ dX2_level_88 ⟨Nat.le_of_ble_eq_true rfl, Nat.le_of_ble_eq_true rfl⟩ (PV.mk ⟨by show PQc _ P key C n (prs P key (d + 1) lv o nt q); rw [← hres, show 97 - k = (96 - k) + 1 by omega, lpr_yes hlq.1, hr31]; exact hb38, (Ex.tr (Ex.tr (Ex.tr hEk (pXc_pYc hx23)) hx29) hx39)⟩)
          · skip
            rw [hr31] at hq28 hok30
            have hp42 : PSc σ26 P key q33 ((C ++ ck) ++ c34) (n + nk + n35) := hq28
            have hl43 : Lok P q33 ∧ (nxq P qk).1 + c34.length ≤ q33.1 ∧ (nxq P qk).1 < q33.1 := hok30
            have := hl43.1.2.1; have := hl43.1.2.2.1
            refine r_aload_n hX dX2_level_73 rfl ?_
            refine r_sipush hX (nI 20000) dX2_level_74 rfl ?_
            refine r_iload hX dX2_level_77 rfl ?_
            refine r_iaddN hX dX2_level_79 ?_
            refine r_callVV (As := [.int (nI (20000 + (P.2 qk.1)))]) (rest := []) hX (by rw [show nI (20000 + (P.2 qk.1)) = nI (tcd key (opc (P.2 qk.1))) from (congrArg nI (sgc_opc hop key).symm)]; exact c_X2_put hA σ26 P key q33 ((C ++ ck) ++ c34) (n + nk + n35) hp42 hl43.1 (opc (P.2 qk.1)) (by (try simp only [List.length_append, List.length_cons, List.length_nil]); omega)) dX2_level_80 cb_X2_100 (hA.1 105 (1, 0) rfl) rfl rfl ⟨by show _ ≤ 2 * (d + 1) + 11; omega, by show _ ≤ 50 * (d + 1) + 325; omega⟩ ⟨Nat.le_of_ble_eq_true rfl, Nat.le_of_ble_eq_true rfl⟩ (Nat.le_of_ble_eq_true rfl) (fun σ44 h45 => ?_)
            obtain ⟨hp46, hx47⟩ := h45
            refine r_iload_n hX dX2_level_83 rfl ?_
            refine r_iconst hX (nI 2) dX2_level_84 rfl ?_
            refine r_icmpN_ne hX dX2_level_85 (by omega) (by decide) (fun c48 => ?_) (fun c48 => ?_)
            · skip
              refine r_iincN (n := 1) hX [(0, .ref (L.1 105)), (1, .int (nI lv)), (2, .int (nI o)), (3, .int (nI nt)), (4, .int (nI (k + 1))), (5, .int (nI (P.2 qk.1)))] dX2_level_89 rfl hN4 rfl ?_
              refine r_goto hX dX2_level_92 ?_
              exact At.less (At.to (ls := [(0, .ref (L.1 105)), (1, .int (nI lv)), (2, .int (nI o)), (3, .int (nI nt)), (4, .int (nI (k + 1)))]) (ih16 q33 (ck ++ c34 ++ [opc (P.2 qk.1)]) (nk + n35) σ44 (PSc.as hp46 (by simp only [List.append_assoc]) (by omega)) hl43.1 (by simp only [List.length_append, List.length_cons, List.length_nil]; omega) (by omega) (Ex.tr (Ex.tr (Ex.tr hEk (pXc_pYc hx23)) hx29) hx47) (by rw [← hres, show 97 - k = (97 - (k + 1)) + 1 by omega, lpr_yes hlq.1, hr31]; show _ = (if lv = 2 then _ else _); rw [if_neg c48])) rfl rfl rfl) (by simp)
            · skip
              exact r_return hX hQ dX2_level_88 ⟨Nat.le_of_ble_eq_true rfl, Nat.le_of_ble_eq_true rfl⟩ (PV.mk ⟨by show PQc _ P key C n (prs P key (d + 1) lv o nt q); rw [← hres, show 97 - k = (96 - k) + 1 by omega, lpr_yes hlq.1, hr31]; show PQc _ P key C n (if lv = 2 then _ else _); rw [if_pos c48]; show PSc _ P key q33 (C ++ (ck ++ c34 ++ [opc (P.2 qk.1)])) (n + (nk + n35)); exact PSc.as hp46 (by simp only [List.append_assoc]) (by omega), (Ex.tr (Ex.tr (Ex.tr hEk (pXc_pYc hx23)) hx29) hx47)⟩)
    exact At.to (P15 0 (Nat.zero_le _) q9 c10 n11 σ2 hp13 hl14.1 hl14.2.1 (by omega) (Ex.tr (Ex.rf σ) hx5) (by rw [prs_lv hlv, hr7]; rfl)) rfl rfl rfl

set_option maxHeartbeats 4000000 in
set_option maxRecDepth 100000 in
theorem c_X2_levelB {l : Launch} {D : Ds} {L : La}  (P : Tp) (key d o nt : Nat) (hA : CAt L) (hsub : ∀ (σ : Me) (q : Lx) (C : List Nat) (n : Nat), PSc σ P key q C n → Lok P q → C.length + 1 ≤ q.1 → Ct l yX2_piece cX2_piece 3 none { frames := 2 * (d) + 10, cells := 0, slots := 0, locals := 50 * (d) + 300 } D L σ [.ref (L.1 105), .int (nI o), .int (nI nt)] (PV L (fun σ2 => PQc σ2 P key C n (prs P key d 5 o nt q) ∧ Ex pYc σ σ2))) (σ : Me) (q : Lx) (C : List Nat) (n : Nat) (hps : PSc σ P key q C n) (lok : Lok P q) (hCq : C.length + 1 ≤ q.1) : Ct l yX2_level cX2_level 6 none { frames := 2 * d + 11, cells := 0, slots := 0, locals := 50 * d + 325 } D L σ [.ref (L.1 105), .int (nI 5), .int (nI o), .int (nI nt)] (PV L (fun σ2 => PQc σ2 P key C n (prs P key d 5 o nt q) ∧ Ex pYc σ σ2)) := by
  refine Ct.of (by decide) (Nat.le_of_ble_eq_true rfl) ?_
  intro X hl hD hnl hX0 hQ
  have hX : Ok X cX2_level RX2 "level" { frames := 2 * d + 11, cells := 0, slots := 0, locals := 50 * d + 325 } none := hX0
  show At X L σ 0 0 [(0, .ref (L.1 105)), (1, .int (nI 5)), (2, .int (nI o)), (3, .int (nI nt))] 0 []
  refine r_iload_n hX dX2_level_0 rfl ?_
  refine r_iconst hX (nI 5) dX2_level_1 rfl ?_
  refine r_icmpN_lt hX dX2_level_2 (by decide) (by decide) (fun c1 => absurd c1 (by decide)) (fun c1 => ?_)
  refine r_aload_n hX dX2_level_5 rfl ?_
  refine r_iload_n hX dX2_level_6 rfl ?_
  refine r_iload_n hX dX2_level_7 rfl ?_
  refine r_callVV (As := [.int (nI o), .int (nI nt)]) (rest := []) hX (by rw [hl, hD]; exact hsub σ q C n hps lok hCq) dX2_level_8 cb_X2_93 (hA.1 105 (1, 0) rfl) rfl rfl ⟨by show _ ≤ 2 * d + 11; omega, by show _ ≤ 50 * d + 325; omega⟩ ⟨Nat.le_of_ble_eq_true rfl, Nat.le_of_ble_eq_true rfl⟩ (Nat.le_of_ble_eq_true rfl) (fun σ2 h3 => ?_)
  exact r_return hX hQ dX2_level_11 ⟨Nat.le_of_ble_eq_true rfl, Nat.le_of_ble_eq_true rfl⟩ (PV.mk h3)
