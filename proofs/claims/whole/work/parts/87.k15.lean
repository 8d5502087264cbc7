set_option maxHeartbeats 4000000 in
set_option maxRecDepth 100000 in
theorem c_X9_sheet {l : Launch} {D : Ds} {L : La}  (hA : CAt L) (σ : Me) (B : Bs) (hB : RBc σ B) (k s n : Int32) : Ct l yX9_sheet cX9_sheet 5 (some .int) { frames := 2, cells := 0, slots := 0, locals := 45 } D L σ [.ref (L.1 100), .int k, .int s, .int n] (PI L (fun r σ2 => r = (oSheet B k s n).1 ∧ RBc σ2 (oSheet B k s n).2 ∧ Ex pBc σ σ2)) := by
  refine Ct.of (by decide) (Nat.le_of_ble_eq_true rfl) ?_
  intro X hl hD hnl hX0 hQ
  have hX : Ok X cX9_sheet RX9 "sheet" { frames := 2, cells := 0, slots := 0, locals := 45 } (some .int) := hX0
  have hN4 : 4 < xn X := by rw [hnl]; decide
  show At X L σ 0 0 [(0, .ref (L.1 100)), (1, .int k), (2, .int s), (3, .int n)] 0 []
  refine r_iload_n hX dX9_sheet_0 rfl ?_
  refine r_callSF (As := [.int k]) (rest := []) hX (c_X9_isSheet σ k) dX9_sheet_1 cb_X9_279 rfl rfl ⟨Nat.le_of_ble_eq_true rfl, Nat.le_of_ble_eq_true rfl⟩ ⟨Nat.le_of_ble_eq_true rfl, Nat.le_of_ble_eq_true rfl⟩ (Nat.le_of_ble_eq_true rfl) ?_
  refine r_ifB_eq hX dX9_sheet_4 (fun c1 => ?_) (fun c1 => ?_)
  · skip
    refine r_ldc hX dX9_sheet_16 ko_X9_75 ?_
    exact r_ireturn hX hQ dX9_sheet_18 ⟨Nat.le_of_ble_eq_true rfl, Nat.le_of_ble_eq_true rfl⟩ (PI.mk (by rw [oSheet, if_neg (fun e => by rw [c1] at e; cases e.1)]; exact ⟨rfl, hB, Ex.rf σ⟩))
  · skip
    obtain ⟨q, hql, hq, rfl⟩ := inB_nat c1 (by decide) (by decide)
    refine r_iload_n hX dX9_sheet_7 rfl ?_
    refine r_iconst hX (-1) dX9_sheet_8 rfl ?_
    refine r_iconst hX (nI 1) dX9_sheet_9 rfl ?_
    refine r_callSF (As := [.int s, .int (-1), .int (nI 1)]) (rest := []) hX (c_X9_within σ s (-1) (nI 1)) dX9_sheet_10 cb_X9_67 rfl rfl ⟨Nat.le_of_ble_eq_true rfl, Nat.le_of_ble_eq_true rfl⟩ ⟨Nat.le_of_ble_eq_true rfl, Nat.le_of_ble_eq_true rfl⟩ (Nat.le_of_ble_eq_true rfl) ?_
    refine r_ifB_ne hX dX9_sheet_13 (fun c2 => ?_) (fun c2 => ?_)
    · skip
      rcases in_s c2 with rfl | rfl | rfl
      · skip
        refine r_iload_n hX dX9_sheet_19 rfl ?_
        refine r_iconst hX (-1) dX9_sheet_20 rfl ?_
        refine r_icmp_ne hX dX9_sheet_21 (fun c3 => absurd rfl c3) (fun c3 => ?_)
        refine r_iconst hX (nI 0) dX9_sheet_24 rfl ?_
        refine r_goto hX dX9_sheet_25 ?_
        refine r_istore hX [(0, .ref (L.1 100)), (1, .int (nI q)), (2, .int (-1)), (3, .int n), (4, .int (nI 0))] dX9_sheet_29 hN4 rfl ?_
        refine r_iload hX dX9_sheet_31 rfl ?_
        refine r_bipush hX (nI 24) dX9_sheet_33 rfl ?_
        refine r_icmpN_le hX dX9_sheet_35 (by decide) (by decide) (fun c4 => ?_) (fun c4 => absurd c4 (by decide))
        refine r_iload hX dX9_sheet_41 rfl ?_
        refine r_ifN_ge hX dX9_sheet_43 (by decide) ?_
        refine r_aload_n hX dX9_sheet_50 rfl ?_
        refine r_getR hX dX9_sheet_51 fl_X9_41 (hA.1 100 (8, 0) rfl) rfl (hA.2.1 100 4 107 rfl) ?_
        refine r_iload_n hX dX9_sheet_54 rfl ?_
        refine r_aald hX dX9_sheet_55 (hA.1 107 (13, 4) rfl) (by decide) (by decide) (by decide) (by omega) (.ref (L.1 (110 + 2 * q))) (by rw [(hA.sh (q := q) (by omega)).2]; rfl) ?_
        refine r_iload_n hX dX9_sheet_56 rfl ?_
        refine r_iload hX dX9_sheet_57 rfl ?_
        refine r_callVV (As := [.int (-1), .int (nI 0)]) (rest := []) hX (c_X4_become σ (110 + 2 * q) (hA.sh (q := q) (by omega)).1 (-1) (nI 0)) dX9_sheet_59 cb_X9_283 (hA.sh (q := q) (by omega)).1.1 rfl rfl ⟨Nat.le_of_ble_eq_true rfl, Nat.le_of_ble_eq_true rfl⟩ ⟨Nat.le_of_ble_eq_true rfl, Nat.le_of_ble_eq_true rfl⟩ (Nat.le_of_ble_eq_true rfl) (fun σ5 h6 => ?_)
        obtain ⟨e0, e1, e2, ef⟩ := h6
        refine r_iload hX dX9_sheet_62 rfl ?_
        exact r_ireturn hX hQ dX9_sheet_64 ⟨Nat.le_of_ble_eq_true rfl, Nat.le_of_ble_eq_true rfl⟩ (PI.mk (by rw [oSheet, if_pos ⟨c1, c2, (fun e => e.1 (by decide))⟩, if_neg (fun e => e.1 (by decide)), if_pos (by decide), if_pos (by decide), nI_clamp (n := q) (by omega)]; exact ⟨rfl, rbc_set (o := none) (n := 0) hB (by omega) (by omega) e0 e1 e2 ef, fun c i hc => ef c i (fun e => by rw [pBc] at hc; simp at hc; omega) (fun e => by rw [pBc] at hc; simp at hc; omega)⟩))
      · skip
        refine r_iload_n hX dX9_sheet_19 rfl ?_
        refine r_iconst hX (-1) dX9_sheet_20 rfl ?_
        refine r_icmp_ne hX dX9_sheet_21 (fun c7 => ?_) (fun c7 => absurd c7 (nneg_ne (by decide) (by decide)))
        refine r_iload_n hX dX9_sheet_28 rfl ?_
        refine r_istore hX [(0, .ref (L.1 100)), (1, .int (nI q)), (2, .int (nI 0)), (3, .int n), (4, .int n)] dX9_sheet_29 hN4 rfl ?_
        refine r_iload hX dX9_sheet_31 rfl ?_
        refine r_bipush hX (nI 24) dX9_sheet_33 rfl ?_
        refine r_icmp_le hX dX9_sheet_35 (fun c8 => ?_) (fun c8 => ?_)
        · skip
          refine r_iload hX dX9_sheet_41 rfl ?_
          refine r_if_ge hX dX9_sheet_43 (fun c9 => ?_) (fun c9 => ?_)
          · skip
            obtain ⟨m, hm, rfl⟩ := n24 (sgn_ge c9) (Int32.not_lt.mpr c8)
            refine r_aload_n hX dX9_sheet_50 rfl ?_
            refine r_getR hX dX9_sheet_51 fl_X9_41 (hA.1 100 (8, 0) rfl) rfl (hA.2.1 100 4 107 rfl) ?_
            refine r_iload_n hX dX9_sheet_54 rfl ?_
            refine r_aald hX dX9_sheet_55 (hA.1 107 (13, 4) rfl) (by decide) (by decide) (by decide) (by omega) (.ref (L.1 (110 + 2 * q))) (by rw [(hA.sh (q := q) (by omega)).2]; rfl) ?_
            refine r_iload_n hX dX9_sheet_56 rfl ?_
            refine r_iload hX dX9_sheet_57 rfl ?_
            refine r_callVV (As := [.int (nI 0), .int (nI m)]) (rest := []) hX (c_X4_become σ (110 + 2 * q) (hA.sh (q := q) (by omega)).1 (nI 0) (nI m)) dX9_sheet_59 cb_X9_283 (hA.sh (q := q) (by omega)).1.1 rfl rfl ⟨Nat.le_of_ble_eq_true rfl, Nat.le_of_ble_eq_true rfl⟩ ⟨Nat.le_of_ble_eq_true rfl, Nat.le_of_ble_eq_true rfl⟩ (Nat.le_of_ble_eq_true rfl) (fun σ10 h11 => ?_)
            obtain ⟨e0, e1, e2, ef⟩ := h11
            refine r_iload hX dX9_sheet_62 rfl ?_
            exact r_ireturn hX hQ dX9_sheet_64 ⟨Nat.le_of_ble_eq_true rfl, Nat.le_of_ble_eq_true rfl⟩ (PI.mk (by rw [oSheet, if_pos ⟨c1, c2, (fun e => absurd e.2 (fun z => absurd ((nI_ltI (by decide) (by omega)).mp z) (by omega)))⟩, if_neg (fun e => absurd e.2 (nI_pos (by omega))), if_neg (by decide), if_neg (by decide), nI_clamp (n := m) (by omega), nI_clamp (n := q) (by omega)]; exact ⟨rfl, rbc_set (o := (some false)) (n := m) hB (by omega) (by omega) e0 e1 e2 ef, fun c i hc => ef c i (fun e => by rw [pBc] at hc; simp at hc; omega) (fun e => by rw [pBc] at hc; simp at hc; omega)⟩))
          · skip
            refine r_ldcw hX dX9_sheet_46 ko_X9_282 ?_
            exact r_ireturn hX hQ dX9_sheet_49 ⟨Nat.le_of_ble_eq_true rfl, Nat.le_of_ble_eq_true rfl⟩ (PI.mk (by rw [oSheet, if_pos ⟨c1, c2, (fun e => Int32.not_lt.mpr c8 e.2)⟩, if_pos ⟨by decide, Int32.not_le.mp c9⟩]; exact ⟨rfl, hB, Ex.rf σ⟩))
        · skip
          refine r_ldc hX dX9_sheet_38 ko_X9_75 ?_
          exact r_ireturn hX hQ dX9_sheet_40 ⟨Nat.le_of_ble_eq_true rfl, Nat.le_of_ble_eq_true rfl⟩ (PI.mk (by rw [oSheet, if_neg (fun e => e.2.2 ⟨by decide, Int32.not_le.mp c8⟩)]; exact ⟨rfl, hB, Ex.rf σ⟩))
      · skip
        refine r_iload_n hX dX9_sheet_19 rfl ?_
        refine r_iconst hX (-1) dX9_sheet_20 rfl ?_
        refine r_icmp_ne hX dX9_sheet_21 (fun c12 => ?_) (fun c12 => absurd c12 (nneg_ne (by decide) (by decide)))
        refine r_iload_n hX dX9_sheet_28 rfl ?_
        refine r_istore hX [(0, .ref (L.1 100)), (1, .int (nI q)), (2, .int (nI 1)), (3, .int n), (4, .int n)] dX9_sheet_29 hN4 rfl ?_
        refine r_iload hX dX9_sheet_31 rfl ?_
        refine r_bipush hX (nI 24) dX9_sheet_33 rfl ?_
        refine r_icmp_le hX dX9_sheet_35 (fun c13 => ?_) (fun c13 => ?_)
        · skip
          refine r_iload hX dX9_sheet_41 rfl ?_
          refine r_if_ge hX dX9_sheet_43 (fun c14 => ?_) (fun c14 => ?_)
          · skip
            obtain ⟨m, hm, rfl⟩ := n24 (sgn_ge c14) (Int32.not_lt.mpr c13)
            refine r_aload_n hX dX9_sheet_50 rfl ?_
            refine r_getR hX dX9_sheet_51 fl_X9_41 (hA.1 100 (8, 0) rfl) rfl (hA.2.1 100 4 107 rfl) ?_
            refine r_iload_n hX dX9_sheet_54 rfl ?_
            refine r_aald hX dX9_sheet_55 (hA.1 107 (13, 4) rfl) (by decide) (by decide) (by decide) (by omega) (.ref (L.1 (110 + 2 * q))) (by rw [(hA.sh (q := q) (by omega)).2]; rfl) ?_
            refine r_iload_n hX dX9_sheet_56 rfl ?_
            refine r_iload hX dX9_sheet_57 rfl ?_
            refine r_callVV (As := [.int (nI 1), .int (nI m)]) (rest := []) hX (c_X4_become σ (110 + 2 * q) (hA.sh (q := q) (by omega)).1 (nI 1) (nI m)) dX9_sheet_59 cb_X9_283 (hA.sh (q := q) (by omega)).1.1 rfl rfl ⟨Nat.le_of_ble_eq_true rfl, Nat.le_of_ble_eq_true rfl⟩ ⟨Nat.le_of_ble_eq_true rfl, Nat.le_of_ble_eq_true rfl⟩ (Nat.le_of_ble_eq_true rfl) (fun σ15 h16 => ?_)
            obtain ⟨e0, e1, e2, ef⟩ := h16
            refine r_iload hX dX9_sheet_62 rfl ?_
            exact r_ireturn hX hQ dX9_sheet_64 ⟨Nat.le_of_ble_eq_true rfl, Nat.le_of_ble_eq_true rfl⟩ (PI.mk (by rw [oSheet, if_pos ⟨c1, c2, (fun e => absurd e.2 (fun z => absurd ((nI_ltI (by decide) (by omega)).mp z) (by omega)))⟩, if_neg (fun e => absurd e.2 (nI_pos (by omega))), if_neg (by decide), if_neg (by decide), nI_clamp (n := m) (by omega), nI_clamp (n := q) (by omega)]; exact ⟨rfl, rbc_set (o := (some true)) (n := m) hB (by omega) (by omega) e0 e1 e2 ef, fun c i hc => ef c i (fun e => by rw [pBc] at hc; simp at hc; omega) (fun e => by rw [pBc] at hc; simp at hc; omega)⟩))
          · skip
            refine r_ldcw hX dX9_sheet_46 ko_X9_282 ?_
            exact r_ireturn hX hQ dX9_sheet_49 ⟨Nat.le_of_ble_eq_true rfl, Nat.le_of_ble_eq_true rfl⟩ (PI.mk (by rw [oSheet, if_pos ⟨c1, c2, (fun e => Int32.not_lt.mpr c13 e.2)⟩, if_pos ⟨by decide, Int32.not_le.mp c14⟩]; exact ⟨rfl, hB, Ex.rf σ⟩))
        · skip
          refine r_ldc hX dX9_sheet_38 ko_X9_75 ?_
          exact r_ireturn hX hQ dX9_sheet_40 ⟨Nat.le_of_ble_eq_true rfl, Nat.le_of_ble_eq_true rfl⟩ (PI.mk (by rw [oSheet, if_neg (fun e => e.2.2 ⟨by decide, Int32.not_le.mp c13⟩)]; exact ⟨rfl, hB, Ex.rf σ⟩))
    · skip
      refine r_ldc hX dX9_sheet_16 ko_X9_75 ?_
      exact r_ireturn hX hQ dX9_sheet_18 ⟨Nat.le_of_ble_eq_true rfl, Nat.le_of_ble_eq_true rfl⟩ (PI.mk (by rw [oSheet, if_neg (fun e => by rw [c2] at e; cases e.2.1)]; exact ⟨rfl, hB, Ex.rf σ⟩))

set_option maxHeartbeats 4000000 in
set_option maxRecDepth 100000 in
theorem c_X9_mark {l : Launch} {D : Ds} {L : La}  (hN : NL D) (hA : CAt L) (σ : Me) (B : Bs) (hB : RBc σ B) (k p v : Int32) : Ct l yX9_mark cX9_mark 5 (some .int) { frames := 2, cells := 0, slots := 0, locals := 43 } D L σ [.ref (L.1 100), .int k, .int p, .int v] (PI L (fun r σ2 => r = (oMark B k p v).1 ∧ RBc σ2 (oMark B k p v).2 ∧ Ex pBc σ σ2)) := by
  refine Ct.of (by decide) (Nat.le_of_ble_eq_true rfl) ?_
  intro X hl hD hnl hX0 hQ
  have hX : Ok X cX9_mark RX9 "mark" { frames := 2, cells := 0, slots := 0, locals := 43 } (some .int) := hX0
  have hN4 : 4 < xn X := by rw [hnl]; decide
  show At X L σ 0 0 [(0, .ref (L.1 100)), (1, .int k), (2, .int p), (3, .int v)] 0 []
  refine r_iload_n hX dX9_mark_0 rfl ?_
  refine r_callSF (As := [.int k]) (rest := []) hX (c_X9_isSheet σ k) dX9_mark_1 cb_X9_279 rfl rfl ⟨Nat.le_of_ble_eq_true rfl, Nat.le_of_ble_eq_true rfl⟩ ⟨Nat.le_of_ble_eq_true rfl, Nat.le_of_ble_eq_true rfl⟩ (Nat.le_of_ble_eq_true rfl) ?_
  refine r_ifB_ne hX dX9_mark_4 (fun c1 => ?_) (fun c1 => ?_)
  · skip
    obtain ⟨q, hql, hq, rfl⟩ := inB_nat c1 (by decide) (by decide)
    refine r_aload_n hX dX9_mark_10 rfl ?_
    refine r_getR hX dX9_mark_11 fl_X9_41 (hA.1 100 (8, 0) rfl) rfl (hA.2.1 100 4 107 rfl) ?_
    refine r_iload_n hX dX9_mark_14 rfl ?_
    refine r_aald hX dX9_mark_15 (hA.1 107 (13, 4) rfl) (by decide) (by decide) (by decide) (by omega) (.ref (L.1 (110 + 2 * q))) (by rw [(hA.sh (q := q) (by omega)).2]; rfl) ?_
    refine r_astore hX [(0, .ref (L.1 100)), (1, .int (nI q)), (2, .int p), (3, .int v), (4, .ref (L.1 (110 + 2 * q)))] dX9_mark_16 hN4 rfl ?_
    refine r_aload hX dX9_mark_18 rfl ?_
    refine r_callVF (As := []) (rest := []) hX (c_X4_isMissing σ (110 + 2 * q) (hA.sh (q := q) (by omega)).1 (B.1 q) (hB q (by omega)).1) dX9_mark_20 cb_X9_287 (hA.sh (q := q) (by omega)).1.1 rfl rfl ⟨Nat.le_of_ble_eq_true rfl, Nat.le_of_ble_eq_true rfl⟩ ⟨Nat.le_of_ble_eq_true rfl, Nat.le_of_ble_eq_true rfl⟩ (Nat.le_of_ble_eq_true rfl) ?_
    refine r_ifB_eq hX dX9_mark_23 (fun c2 => ?_) (fun c2 => ?_)
    · skip
      obtain ⟨bq, hbq⟩ := some_of c2
      have hzq := (hB q (by omega)).2.2.1
      refine r_aload hX dX9_mark_30 rfl ?_
      refine r_iload_n hX dX9_mark_32 rfl ?_
      refine r_callVF (As := [.int p]) (rest := []) hX (by rw [hl, hD]; exact c_X4_has hN σ (110 + 2 * q) (hA.sh (q := q) (by omega)).1 (B.2.1 q) (hB q (by omega)).2.1 p) dX9_mark_33 cb_X9_292 (hA.sh (q := q) (by omega)).1.1 rfl rfl ⟨Nat.le_of_ble_eq_true rfl, Nat.le_of_ble_eq_true rfl⟩ ⟨Nat.le_of_ble_eq_true rfl, Nat.le_of_ble_eq_true rfl⟩ (Nat.le_of_ble_eq_true rfl) ?_
      refine r_ifB_ne hX dX9_mark_36 (fun c3 => ?_) (fun c3 => ?_)
      · skip
        obtain ⟨u, hu, rfl⟩ := isB_nat c3 (by omega)
        refine r_aload hX dX9_mark_43 rfl ?_
        refine r_getIV hX dX9_mark_45 fl_X9_296 (hA.sh (q := q) (by omega)).1.1 rfl (bI bq) ((hB q (by omega)).1.trans (by rw [hbq]; rfl)) ?_
        refine r_ifB_ne hX dX9_mark_48 (fun c4 => ?_) (fun c4 => ?_)
        · skip
          refine r_iload_n hX dX9_mark_71 rfl ?_
          refine r_ldc hX dX9_mark_72 ko_X9_195 ?_
          refine r_icmp_eq hX dX9_mark_74 (fun c5 => ?_) (fun c5 => ?_)
          · skip
            refine r_aload hX dX9_mark_93 rfl ?_
            refine r_getR hX dX9_mark_95 fl_X9_299 (hA.sh (q := q) (by omega)).1.1 rfl (hA.sh (q := q) (by omega)).1.2.2 ?_
            refine r_iload_n hX dX9_mark_98 rfl ?_
            refine r_iload_n hX dX9_mark_99 rfl ?_
            refine r_astN hX dX9_mark_100 (hA.sh (q := q) (by omega)).1.2.1 (by decide) (by omega) ?_
            refine r_iconst hX (nI 1) dX9_mark_101 rfl ?_
            exact r_ireturn hX hQ dX9_mark_102 ⟨Nat.le_of_ble_eq_true rfl, Nat.le_of_ble_eq_true rfl⟩ (PI.mk (by rw [oMark, if_pos c1, nI_clamp (n := q) (by omega), hbq]; show _ = (if isB (nI u) (B.2.1 q) = true then _ else _ : Int32 × Bs).1 ∧ RBc _ (if isB (nI u) (B.2.1 q) = true then _ else _ : Int32 × Bs).2 ∧ _; rw [if_pos c3, if_neg (fun e => by rw [c4] at e; cases e.1), if_neg (fun e => e.2.1 c5), if_pos c4, nI_clamp (n := u) (by omega)]; exact ⟨rfl, rbc_mark hB (by omega) (by omega), Ex.up (Ex.rf σ) (by unfold pBc; simp; omega)⟩))
          · skip
            refine r_iload_n hX dX9_mark_77 rfl ?_
            refine r_ldcw hX dX9_mark_78 ko_X9_302 ?_
            refine r_ldcw hX dX9_mark_81 ko_X9_303 ?_
            refine r_callSF (As := [.int v, .int (-99999), .int 99999]) (rest := []) hX (c_X9_within σ v (-99999) 99999) dX9_mark_84 cb_X9_67 rfl rfl ⟨Nat.le_of_ble_eq_true rfl, Nat.le_of_ble_eq_true rfl⟩ ⟨Nat.le_of_ble_eq_true rfl, Nat.le_of_ble_eq_true rfl⟩ (Nat.le_of_ble_eq_true rfl) ?_
            refine r_ifB_ne hX dX9_mark_87 (fun c6 => ?_) (fun c6 => ?_)
            · skip
              refine r_aload hX dX9_mark_93 rfl ?_
              refine r_getR hX dX9_mark_95 fl_X9_299 (hA.sh (q := q) (by omega)).1.1 rfl (hA.sh (q := q) (by omega)).1.2.2 ?_
              refine r_iload_n hX dX9_mark_98 rfl ?_
              refine r_iload_n hX dX9_mark_99 rfl ?_
              refine r_astN hX dX9_mark_100 (hA.sh (q := q) (by omega)).1.2.1 (by decide) (by omega) ?_
              refine r_iconst hX (nI 1) dX9_mark_101 rfl ?_
              exact r_ireturn hX hQ dX9_mark_102 ⟨Nat.le_of_ble_eq_true rfl, Nat.le_of_ble_eq_true rfl⟩ (PI.mk (by rw [oMark, if_pos c1, nI_clamp (n := q) (by omega), hbq]; show _ = (if isB (nI u) (B.2.1 q) = true then _ else _ : Int32 × Bs).1 ∧ RBc _ (if isB (nI u) (B.2.1 q) = true then _ else _ : Int32 × Bs).2 ∧ _; rw [if_pos c3, if_neg (fun e => by rw [c4] at e; cases e.1), if_neg (fun e => by rw [c6] at e; cases e.2.2), if_pos c4, nI_clamp (n := u) (by omega)]; exact ⟨rfl, rbc_mark hB (by omega) (by omega), Ex.up (Ex.rf σ) (by unfold pBc; simp; omega)⟩))
            · skip
              refine r_ldc hX dX9_mark_90 ko_X9_75 ?_
              exact r_ireturn hX hQ dX9_mark_92 ⟨Nat.le_of_ble_eq_true rfl, Nat.le_of_ble_eq_true rfl⟩ (PI.mk (by rw [oMark, if_pos c1, nI_clamp (n := q) (by omega), hbq]; show _ = (if isB (nI u) (B.2.1 q) = true then _ else _ : Int32 × Bs).1 ∧ RBc _ (if isB (nI u) (B.2.1 q) = true then _ else _ : Int32 × Bs).2 ∧ _; rw [if_pos c3, if_neg (fun e => by rw [c4] at e; cases e.1), if_pos ⟨c4, c5, c6⟩]; exact ⟨rfl, hB, Ex.rf σ⟩))
        · skip
          refine r_iload_n hX dX9_mark_51 rfl ?_
          refine r_ldc hX dX9_mark_52 ko_X9_195 ?_
          refine r_icmp_ne hX dX9_mark_54 (fun c7 => ?_) (fun c7 => ?_)
          · skip
            refine r_aload hX dX9_mark_60 rfl ?_
            refine r_getR hX dX9_mark_62 fl_X9_299 (hA.sh (q := q) (by omega)).1.1 rfl (hA.sh (q := q) (by omega)).1.2.2 ?_
            refine r_iload_n hX dX9_mark_65 rfl ?_
            refine r_iload_n hX dX9_mark_66 rfl ?_
            refine r_i2s hX dX9_mark_67 ?_
            refine r_astN hX dX9_mark_68 (hA.sh (q := q) (by omega)).1.2.1 (by decide) (by omega) ?_
            refine r_iconst hX (nI 1) dX9_mark_69 rfl ?_
            exact r_ireturn hX hQ dX9_mark_70 ⟨Nat.le_of_ble_eq_true rfl, Nat.le_of_ble_eq_true rfl⟩ (PI.mk (by rw [oMark, if_pos c1, nI_clamp (n := q) (by omega), hbq]; show _ = (if isB (nI u) (B.2.1 q) = true then _ else _ : Int32 × Bs).1 ∧ RBc _ (if isB (nI u) (B.2.1 q) = true then _ else _ : Int32 × Bs).2 ∧ _; rw [if_pos c3, if_neg (fun e => c7 e.2), if_neg (fun e => by rw [c4] at e; cases e.1), if_neg (by rw [c4]; decide), nI_clamp (n := u) (by omega)]; exact ⟨rfl, rbc_mark hB (by omega) (by omega), Ex.up (Ex.rf σ) (by unfold pBc; simp; omega)⟩))
          · skip
            refine r_ldc hX dX9_mark_57 ko_X9_168 ?_
            exact r_ireturn hX hQ dX9_mark_59 ⟨Nat.le_of_ble_eq_true rfl, Nat.le_of_ble_eq_true rfl⟩ (PI.mk (by rw [oMark, if_pos c1, nI_clamp (n := q) (by omega), hbq]; show _ = (if isB (nI u) (B.2.1 q) = true then _ else _ : Int32 × Bs).1 ∧ RBc _ (if isB (nI u) (B.2.1 q) = true then _ else _ : Int32 × Bs).2 ∧ _; rw [if_pos c3, if_pos ⟨c4, c7⟩]; exact ⟨rfl, hB, Ex.rf σ⟩))
      · skip
        refine r_ldcw hX dX9_mark_39 ko_X9_295 ?_
        exact r_ireturn hX hQ dX9_mark_42 ⟨Nat.le_of_ble_eq_true rfl, Nat.le_of_ble_eq_true rfl⟩ (PI.mk (by rw [oMark, if_pos c1, nI_clamp (n := q) (by omega), hbq]; show _ = (if isB p (B.2.1 q) = true then _ else _ : Int32 × Bs).1 ∧ RBc _ (if isB p (B.2.1 q) = true then _ else _ : Int32 × Bs).2 ∧ _; rw [if_neg (fun e => by rw [c3] at e; cases e)]; exact ⟨rfl, hB, Ex.rf σ⟩))
    · skip
      have hnq := none_of c2
      refine r_ldcw hX dX9_mark_26 ko_X9_291 ?_
      exact r_ireturn hX hQ dX9_mark_29 ⟨Nat.le_of_ble_eq_true rfl, Nat.le_of_ble_eq_true rfl⟩ (PI.mk (by rw [oMark, if_pos c1, nI_clamp (n := q) (by omega), hnq]; exact ⟨rfl, hB, Ex.rf σ⟩))
  · skip
    refine r_ldc hX dX9_mark_7 ko_X9_75 ?_
    exact r_ireturn hX hQ dX9_mark_9 ⟨Nat.le_of_ble_eq_true rfl, Nat.le_of_ble_eq_true rfl⟩ (PI.mk (by rw [oMark, if_neg (fun e => by rw [c1] at e; cases e)]; exact ⟨rfl, hB, Ex.rf σ⟩))

set_option maxHeartbeats 4000000 in
set_option maxRecDepth 100000 in
theorem c_X9_pour {l : Launch} {D : Ds} {L : La}  (hA : CAt L) (σ : Me) (A : Al) (h0 : R0 σ 200 A) (hW : RW σ 200 A) (hTx : RX' L σ 200 A) (hV : Va A) (B : Bs) (hB : RBc σ B) (k o : Int32) : Ct l yX9_pour cX9_pour 6 (some .int) { frames := 4, cells := 0, slots := 0, locals := 83 } D L σ [.ref (L.1 100), .int k, .int o] (PI L (fun r σ2 => r = (oPour A B k o).1 ∧ RC L σ2 200 (oPour A B k o).2 ∧ Cb 200 σ σ2)) := by
  refine Ct.of (by decide) (Nat.le_of_ble_eq_true rfl) ?_
  intro X hl hD hnl hX0 hQ
  have hX : Ok X cX9_pour RX9 "pour" { frames := 4, cells := 0, slots := 0, locals := 83 } (some .int) := hX0
  have hN3 : 3 < xn X := by rw [hnl]; decide
  have hN4 : 4 < xn X := by rw [hnl]; decide
  have hN5 : 5 < xn X := by rw [hnl]; decide
  have hC := hA.2.2
  have hbb := hC.2.2
  have hW24 := hV.2.2.1
  have hT6 := hV.1
  have hN12 := hV.2.1
  have hX14 := hV.2.2.2.1
  show At X L σ 0 0 [(0, .ref (L.1 100)), (1, .int k), (2, .int o)] 0 []
  refine r_iload_n hX dX9_pour_0 rfl ?_
  refine r_callSF (As := [.int k]) (rest := []) hX (c_X9_isSheet σ k) dX9_pour_1 cb_X9_279 rfl rfl ⟨Nat.le_of_ble_eq_true rfl, Nat.le_of_ble_eq_true rfl⟩ ⟨Nat.le_of_ble_eq_true rfl, Nat.le_of_ble_eq_true rfl⟩ (Nat.le_of_ble_eq_true rfl) ?_
  refine r_ifB_eq hX dX9_pour_4 (fun c1 => ?_) (fun c1 => ?_)
  · skip
    refine r_ldc hX dX9_pour_15 ko_X9_75 ?_
    exact r_ireturn hX hQ dX9_pour_17 ⟨Nat.le_of_ble_eq_true rfl, Nat.le_of_ble_eq_true rfl⟩ (PI.mk (by rw [oPour, if_neg (fun e => by rw [c1] at e; cases e.1)]; exact ⟨rfl, ⟨h0, hW, hTx⟩, Cb.rf 200 σ⟩))
  · skip
    obtain ⟨q, hql, hq, rfl⟩ := inB_nat c1 (by decide) (by decide)
    refine r_aload_n hX dX9_pour_7 rfl ?_
    refine r_iload_n hX dX9_pour_8 rfl ?_
    refine r_callVF (As := [.int o]) (rest := []) hX (c_X9_isPair hA σ A h0 hW hTx hV o) dX9_pour_9 cb_X9_122 (hA.1 100 (8, 0) rfl) rfl rfl ⟨Nat.le_of_ble_eq_true rfl, Nat.le_of_ble_eq_true rfl⟩ ⟨Nat.le_of_ble_eq_true rfl, Nat.le_of_ble_eq_true rfl⟩ (Nat.le_of_ble_eq_true rfl) ?_
    refine r_ifB_ne hX dX9_pour_12 (fun c2 => ?_) (fun c2 => ?_)
    · skip
      obtain ⟨p, hp, rfl, hp1, hp2⟩ := of_nat hV c2
      refine r_aload_n hX dX9_pour_18 rfl ?_
      refine r_getR hX dX9_pour_19 fl_X9_41 (hA.1 100 (8, 0) rfl) rfl (hA.2.1 100 4 107 rfl) ?_
      refine r_iload_n hX dX9_pour_22 rfl ?_
      refine r_aald hX dX9_pour_23 (hA.1 107 (13, 4) rfl) (by decide) (by decide) (by decide) (by omega) (.ref (L.1 (110 + 2 * q))) (by rw [(hA.sh (q := q) (by omega)).2]; rfl) ?_
      refine r_astore_n hX [(0, .ref (L.1 100)), (1, .int (nI q)), (2, .int (nI p)), (3, .ref (L.1 (110 + 2 * q)))] dX9_pour_24 hN3 rfl ?_
      refine r_aload_n hX dX9_pour_25 rfl ?_
      refine r_callVF (As := []) (rest := []) hX (c_X4_isMissing σ (110 + 2 * q) (hA.sh (q := q) (by omega)).1 (B.1 q) (hB q (by omega)).1) dX9_pour_26 cb_X9_287 (hA.sh (q := q) (by omega)).1.1 rfl rfl ⟨Nat.le_of_ble_eq_true rfl, Nat.le_of_ble_eq_true rfl⟩ ⟨Nat.le_of_ble_eq_true rfl, Nat.le_of_ble_eq_true rfl⟩ (Nat.le_of_ble_eq_true rfl) ?_
      refine r_ifB_eq hX dX9_pour_29 (fun c3 => ?_) (fun c3 => ?_)
      · skip
        obtain ⟨bq, hbq⟩ := some_of c3
        have hzq := (hB q (by omega)).2.2.1
        refine r_aload_n hX dX9_pour_36 rfl ?_
        refine r_callSF (As := [.ref (L.1 (110 + 2 * q))]) (rest := []) hX (c_X9_momentsOn σ (110 + 2 * q) (hA.sh (q := q) (by omega)).1 (B.2.1 q) (B.2.2 q) (hB q (by omega)).2.1 (hB q (by omega)).2.2.1 (fun i hi => (hB q (by omega)).2.2.2 i hi)) dX9_pour_37 cb_X9_304 rfl rfl ⟨Nat.le_of_ble_eq_true rfl, Nat.le_of_ble_eq_true rfl⟩ ⟨Nat.le_of_ble_eq_true rfl, Nat.le_of_ble_eq_true rfl⟩ (Nat.le_of_ble_eq_true rfl) ?_
        refine r_istore hX [(0, .ref (L.1 100)), (1, .int (nI q)), (2, .int (nI p)), (3, .ref (L.1 (110 + 2 * q))), (4, .int (nI (tdN B q)))] dX9_pour_40 hN4 rfl ?_
        refine r_aload_n hX dX9_pour_42 rfl ?_
        refine r_getR hX dX9_pour_43 fl_X9_10 (hA.1 100 (8, 0) rfl) rfl (hA.2.1 100 0 200 rfl) ?_
        refine r_getR hX dX9_pour_46 fl_X9_86 (hC.1 0 (2, 0) rfl) rfl (hC.2.1 0 5 4 rfl) ?_
        refine r_callVF (As := []) (rest := []) hX (c_X8_room 200 hC σ A hW hV) dX9_pour_49 cb_X9_240 (hC.1 4 (7, 0) rfl) rfl rfl ⟨Nat.le_of_ble_eq_true rfl, Nat.le_of_ble_eq_true rfl⟩ ⟨Nat.le_of_ble_eq_true rfl, Nat.le_of_ble_eq_true rfl⟩ (Nat.le_of_ble_eq_true rfl) ?_
        refine r_iload hX dX9_pour_52 rfl ?_
        refine r_icmpN_ge hX dX9_pour_54 (by have : tdN B q ≤ B.2.1 q := pfx_le _ _; omega) (by have : tdN B q ≤ B.2.1 q := pfx_le _ _; omega) (fun c4 => ?_) (fun c4 => ?_)
        · skip
          refine r_iconst hX (nI 0) dX9_pour_60 rfl ?_
          refine r_istore hX [(0, .ref (L.1 100)), (1, .int (nI q)), (2, .int (nI p)), (3, .ref (L.1 (110 + 2 * q))), (4, .int (nI (tdN B q))), (5, .int (nI 0))] dX9_pour_61 hN5 rfl ?_
          have P5 : ∀ i, i ≤ tdN B q → ∀ (σk : Me) (hRk : RC L σk 200 (prK A (p / 100) (p % 100) (B.2.2 q) i)) (hSk : Cb 200 σ σk), At X L σk 0 0 [(0, .ref (L.1 100)), (1, .int (nI q)), (2, .int (nI p)), (3, .ref (L.1 (110 + 2 * q))), (4, .int (nI (tdN B q))), (5, .int (nI i))] 63 [] := by
            refine loopUp (tdN B q) ?_ ?_
            · skip
              intro σk hRk hSk
              refine r_iload hX dX9_pour_63 rfl ?_
              refine r_iload hX dX9_pour_65 rfl ?_
              refine r_icmpN_ge hX dX9_pour_67 (by have : tdN B q ≤ B.2.1 q := pfx_le _ _; omega) (by have : tdN B q ≤ B.2.1 q := pfx_le _ _; omega) (fun c6 => ?_) (fun c6 => absurd c6 (by omega))
              refine r_iload hX dX9_pour_116 rfl ?_
              exact r_ireturn hX hQ dX9_pour_118 ⟨Nat.le_of_ble_eq_true rfl, Nat.le_of_ble_eq_true rfl⟩ (PI.mk (by rw [oPour_y (by omega) (by omega) c1 c2 hbq (by omega)]; exact ⟨rfl, hRk, hSk⟩))
            · skip
              intro i hk ih7 σk hRk hSk
              have htl := pfx_le (fun i => atB (B.2.2 q i)) (B.2.1 q)
              have htl2 : i < B.2.1 q := Nat.lt_of_lt_of_le hk htl
              obtain ⟨a, ha9, hae, ha1, ha5⟩ := at_nat (pfx_all (m := B.2.1 q) hk)
              refine r_iload hX dX9_pour_63 rfl ?_
              refine r_iload hX dX9_pour_65 rfl ?_
              refine r_icmpN_ge hX dX9_pour_67 (by have : tdN B q ≤ B.2.1 q := pfx_le _ _; omega) (by have : tdN B q ≤ B.2.1 q := pfx_le _ _; omega) (fun c8 => absurd c8 (by omega)) (fun c8 => ?_)
              refine r_aload_n hX dX9_pour_70 rfl ?_
              refine r_getR hX dX9_pour_71 fl_X9_10 (hA.1 100 (8, 0) rfl) rfl (hA.2.1 100 0 200 rfl) ?_
              refine r_getR hX dX9_pour_74 fl_X9_86 (hC.1 0 (2, 0) rfl) rfl (hC.2.1 0 5 4 rfl) ?_
              refine r_iconst hX (nI 0) dX9_pour_77 rfl ?_
              refine r_iload_n hX dX9_pour_78 rfl ?_
              refine r_bipush hX (nI 100) dX9_pour_79 rfl ?_
              refine r_idivN hX dX9_pour_81 (by omega) (by decide) (by decide) ?_
              refine r_iload_n hX dX9_pour_82 rfl ?_
              refine r_bipush hX (nI 100) dX9_pour_83 rfl ?_
              refine r_iremN hX dX9_pour_85 (by omega) (by decide) (by decide) ?_
              refine r_aload_n hX dX9_pour_86 rfl ?_
              refine r_getR hX dX9_pour_87 fl_X9_299 (hA.sh (q := q) (by omega)).1.1 rfl (hA.sh (q := q) (by omega)).1.2.2 ?_
              refine r_iload hX dX9_pour_90 rfl ?_
              refine r_aldN hX dX9_pour_92 (hA.sh (q := q) (by omega)).1.2.1 (by decide) (by omega) (nI a) ((hSk (110 + 2 * q + 1) _ (by unfold sc; omega) (by omega)).trans (((hB q (by omega)).2.2.2 i (by omega)).trans hae)) ?_
              refine r_bipush hX (nI 10) dX9_pour_93 rfl ?_
              refine r_idivN hX dX9_pour_95 (by omega) (by decide) (by decide) ?_
              refine r_aload_n hX dX9_pour_96 rfl ?_
              refine r_getR hX dX9_pour_97 fl_X9_299 (hA.sh (q := q) (by omega)).1.1 rfl (hA.sh (q := q) (by omega)).1.2.2 ?_
              refine r_iload hX dX9_pour_100 rfl ?_
              refine r_aldN hX dX9_pour_102 (hA.sh (q := q) (by omega)).1.2.1 (by decide) (by omega) (nI a) ((hSk (110 + 2 * q + 1) _ (by unfold sc; omega) (by omega)).trans (((hB q (by omega)).2.2.2 i (by omega)).trans hae)) ?_
              refine r_bipush hX (nI 10) dX9_pour_103 rfl ?_
              refine r_iremN hX dX9_pour_105 (by omega) (by decide) (by decide) ?_
              refine r_callVI (As := [.int (nI 0), .int (nI (p / 100)), .int (nI (p % 100)), .int (nI (a / 10)), .int (nI (a % 10))]) (rest := []) hX (c_X8_write 200 hC σk (prK A (p / 100) (p % 100) (B.2.2 q) i) hRk.2.1 (va_prK hV hp1 hp2 i (by omega) (fun x hx => pfx_all (m := B.2.1 q) (show x < tdN B q by omega))) 0 (p / 100) (p % 100) (a / 10) (a % 10)) dX9_pour_106 cb_X9_128 (hC.1 4 (7, 0) rfl) rfl rfl ⟨Nat.le_of_ble_eq_true rfl, Nat.le_of_ble_eq_true rfl⟩ ⟨Nat.le_of_ble_eq_true rfl, Nat.le_of_ble_eq_true rfl⟩ (Nat.le_of_ble_eq_true rfl) (fun r9 σ10 h11 => ?_)
              obtain ⟨rfl, hw12, hf13⟩ := h11
              unfold wrA at hw12
              rw [if_pos (show aW (prK A (p / 100) (p % 100) (B.2.2 q) i) < 24 by rw [(prK_W A (p / 100) (p % 100) (B.2.2 q) i).1]; omega)] at hw12
              have hRC14 : RC L σ10 200 (addW (prK A (p / 100) (p % 100) (B.2.2 q) i) 0 (p / 100) (p % 100) (a / 10) (a % 10)) := RC.addW ⟨hRk.1, hRk.2.1, hRk.2.2⟩ (by omega) hw12 hf13
              refine r_pop hX dX9_pour_109 rfl ?_
              refine r_iincN (n := 1) hX [(0, .ref (L.1 100)), (1, .int (nI q)), (2, .int (nI p)), (3, .ref (L.1 (110 + 2 * q))), (4, .int (nI (tdN B q))), (5, .int (nI (i + 1)))] dX9_pour_110 rfl hN5 rfl ?_
              refine r_goto hX dX9_pour_113 ?_
              exact At.to (ih7 _ (by rw [prK, hae, nI_clamp (n := a) (by omega)]; exact hRC14) (Cb.tr hSk hf13.cb)) rfl rfl rfl
          exact At.to (P5 0 (Nat.zero_le _) σ ⟨h0, hW, hTx⟩ (Cb.rf 200 σ)) rfl rfl rfl
        · skip
          refine r_ldc hX dX9_pour_57 ko_X9_242 ?_
          exact r_ireturn hX hQ dX9_pour_59 ⟨Nat.le_of_ble_eq_true rfl, Nat.le_of_ble_eq_true rfl⟩ (PI.mk (by rw [oPour_f (by omega) c1 c2 hbq (by omega)]; exact ⟨rfl, ⟨h0, hW, hTx⟩, Cb.rf 200 σ⟩))
      · skip
        have hnq := none_of c3
        refine r_ldcw hX dX9_pour_32 ko_X9_291 ?_
        exact r_ireturn hX hQ dX9_pour_35 ⟨Nat.le_of_ble_eq_true rfl, Nat.le_of_ble_eq_true rfl⟩ (PI.mk (by rw [oPour_0 (by omega) c1 c2 hnq]; exact ⟨rfl, ⟨h0, hW, hTx⟩, Cb.rf 200 σ⟩))
    · skip
      refine r_ldc hX dX9_pour_15 ko_X9_75 ?_
      exact r_ireturn hX hQ dX9_pour_17 ⟨Nat.le_of_ble_eq_true rfl, Nat.le_of_ble_eq_true rfl⟩ (PI.mk (by rw [oPour, if_neg (fun e => by rw [c2] at e; cases e.2)]; exact ⟨rfl, ⟨h0, hW, hTx⟩, Cb.rf 200 σ⟩))

set_option maxHeartbeats 4000000 in
set_option maxRecDepth 100000 in
theorem c_X9_reads {l : Launch} {D : Ds} {L : La}  (hA : CAt L) (σ : Me) (A : Al) (h0 : R0 σ 200 A) (hW : RW σ 200 A) (hTx : RX' L σ 200 A) (hV : Va A) (B : Bs) (hB : RBc σ B) (k : Int32) : Ct l yX9_reads cX9_reads 5 (some .int) { frames := 3, cells := 0, slots := 0, locals := 66 } D L σ [.ref (L.1 100), .int k] (PF L σ (oReads A B k)) := by
  refine Ct.of (by decide) (Nat.le_of_ble_eq_true rfl) ?_
  intro X hl hD hnl hX0 hQ
  have hX : Ok X cX9_reads RX9 "reads" { frames := 3, cells := 0, slots := 0, locals := 66 } (some .int) := hX0
  have hN2 : 2 < xn X := by rw [hnl]; decide
  have hN3 : 3 < xn X := by rw [hnl]; decide
  have hN4 : 4 < xn X := by rw [hnl]; decide
  have hC := hA.2.2
  have hbb := hC.2.2
  have hW24 := hV.2.2.1
  have hT6 := hV.1
  have hN12 := hV.2.1
  have hX14 := hV.2.2.2.1
  show At X L σ 0 0 [(0, .ref (L.1 100)), (1, .int k)] 0 []
  refine r_iload_n hX dX9_reads_0 rfl ?_
  refine r_callSF (As := [.int k]) (rest := []) hX (c_X9_isSheet σ k) dX9_reads_1 cb_X9_279 rfl rfl ⟨Nat.le_of_ble_eq_true rfl, Nat.le_of_ble_eq_true rfl⟩ ⟨Nat.le_of_ble_eq_true rfl, Nat.le_of_ble_eq_true rfl⟩ (Nat.le_of_ble_eq_true rfl) ?_
  refine r_ifB_ne hX dX9_reads_4 (fun c1 => ?_) (fun c1 => ?_)
  · skip
    obtain ⟨q, hql, hq, rfl⟩ := inB_nat c1 (by decide) (by decide)
    refine r_aload_n hX dX9_reads_10 rfl ?_
    refine r_getR hX dX9_reads_11 fl_X9_41 (hA.1 100 (8, 0) rfl) rfl (hA.2.1 100 4 107 rfl) ?_
    refine r_iload_n hX dX9_reads_14 rfl ?_
    refine r_aald hX dX9_reads_15 (hA.1 107 (13, 4) rfl) (by decide) (by decide) (by decide) (by omega) (.ref (L.1 (110 + 2 * q))) (by rw [(hA.sh (q := q) (by omega)).2]; rfl) ?_
    refine r_astore_n hX [(0, .ref (L.1 100)), (1, .int (nI q)), (2, .ref (L.1 (110 + 2 * q)))] dX9_reads_16 hN2 rfl ?_
    refine r_aload_n hX dX9_reads_17 rfl ?_
    refine r_callVF (As := []) (rest := []) hX (c_X4_isMissing σ (110 + 2 * q) (hA.sh (q := q) (by omega)).1 (B.1 q) (hB q (by omega)).1) dX9_reads_18 cb_X9_287 (hA.sh (q := q) (by omega)).1.1 rfl rfl ⟨Nat.le_of_ble_eq_true rfl, Nat.le_of_ble_eq_true rfl⟩ ⟨Nat.le_of_ble_eq_true rfl, Nat.le_of_ble_eq_true rfl⟩ (Nat.le_of_ble_eq_true rfl) ?_
    refine r_ifB_eq hX dX9_reads_21 (fun c2 => ?_) (fun c2 => ?_)
    · skip
      obtain ⟨bq, hbq⟩ := some_of c2
      have hzq := (hB q (by omega)).2.2.1
      refine r_iconst hX (nI 0) dX9_reads_28 rfl ?_
      refine r_istore_n hX [(0, .ref (L.1 100)), (1, .int (nI q)), (2, .ref (L.1 (110 + 2 * q))), (3, .int (nI 0))] dX9_reads_29 hN3 rfl ?_
      have P3 : ∀ i, i ≤ B.2.1 q → ∀ (hpk : pfx (fun i => !(wrB A B q i)) i = i), At X L σ 0 0 [(0, .ref (L.1 100)), (1, .int (nI q)), (2, .ref (L.1 (110 + 2 * q))), (3, .int (nI i))] 30 [] := by
        refine loopUp (B.2.1 q) ?_ ?_
        · skip
          intro hpk
          refine r_iload_n hX dX9_reads_30 rfl ?_
          refine r_aload_n hX dX9_reads_31 rfl ?_
          refine r_getIV hX dX9_reads_32 fl_X9_308 (hA.sh (q := q) (by omega)).1.1 rfl (nI (B.2.1 q)) (hB q (by omega)).2.1 ?_
          refine r_icmpN_ge hX dX9_reads_35 (by omega) (by omega) (fun c4 => ?_) (fun c4 => absurd c4 (by omega))
          refine r_ldc hX dX9_reads_100 ko_X9_195 ?_
          exact r_ireturn hX hQ dX9_reads_102 ⟨Nat.le_of_ble_eq_true rfl, Nat.le_of_ble_eq_true rfl⟩ (PF.mk (by rw [oReads_n (by omega) c1 hbq hpk]))
        · skip
          intro i hk ih5 hpk
          refine r_iload_n hX dX9_reads_30 rfl ?_
          refine r_aload_n hX dX9_reads_31 rfl ?_
          refine r_getIV hX dX9_reads_32 fl_X9_308 (hA.sh (q := q) (by omega)).1.1 rfl (nI (B.2.1 q)) (hB q (by omega)).2.1 ?_
          refine r_icmpN_ge hX dX9_reads_35 (by omega) (by omega) (fun c6 => absurd c6 (by omega)) (fun c6 => ?_)
          refine r_aload_n hX dX9_reads_38 rfl ?_
          refine r_getR hX dX9_reads_39 fl_X9_299 (hA.sh (q := q) (by omega)).1.1 rfl (hA.sh (q := q) (by omega)).1.2.2 ?_
          refine r_iload_n hX dX9_reads_42 rfl ?_
          refine r_aldN hX dX9_reads_43 (hA.sh (q := q) (by omega)).1.2.1 (by decide) (by omega) (B.2.2 q i) ((hB q (by omega)).2.2.2 i (by omega)) ?_
          refine r_ldc hX dX9_reads_44 ko_X9_195 ?_
          refine r_icmp_eq hX dX9_reads_46 (fun c7 => ?_) (fun c7 => ?_)
          · skip
            refine r_iconst hX (nI 0) dX9_reads_53 rfl ?_
            refine r_istore hX [(0, .ref (L.1 100)), (1, .int (nI q)), (2, .ref (L.1 (110 + 2 * q))), (3, .int (nI i)), (4, .int (nI 0))] dX9_reads_54 hN4 rfl ?_
            refine r_iload hX dX9_reads_56 rfl ?_
            refine r_ifN_eq hX dX9_reads_58 (by decide) (fun c8 => ?_) (fun c8 => absurd c8 (by decide))
            refine r_iincN (n := 1) hX [(0, .ref (L.1 100)), (1, .int (nI q)), (2, .ref (L.1 (110 + 2 * q))), (3, .int (nI (i + 1))), (4, .int (nI 0))] dX9_reads_94 rfl hN3 rfl ?_
            refine r_goto hX dX9_reads_97 ?_
            exact At.less (At.to (ls := [(0, .ref (L.1 100)), (1, .int (nI q)), (2, .ref (L.1 (110 + 2 * q))), (3, .int (nI (i + 1)))]) (ih5 (pfx_s hpk (wr_f1 c7))) rfl rfl rfl) (by simp)
          · skip
            refine r_iconst hX (nI 1) dX9_reads_49 rfl ?_
            refine r_goto hX dX9_reads_50 ?_
            refine r_istore hX [(0, .ref (L.1 100)), (1, .int (nI q)), (2, .ref (L.1 (110 + 2 * q))), (3, .int (nI i)), (4, .int (nI 1))] dX9_reads_54 hN4 rfl ?_
            refine r_iload hX dX9_reads_56 rfl ?_
            refine r_ifN_eq hX dX9_reads_58 (by decide) (fun c9 => absurd c9 (by decide)) (fun c9 => ?_)
            refine r_iload_n hX dX9_reads_61 rfl ?_
            refine r_aload_n hX dX9_reads_62 rfl ?_
            refine r_getR hX dX9_reads_63 fl_X9_10 (hA.1 100 (8, 0) rfl) rfl (hA.2.1 100 0 200 rfl) ?_
            refine r_getIV hX dX9_reads_66 fl_X9_192 (hC.1 0 (2, 0) rfl) rfl (nI (aT A)) h0.1 ?_
            refine r_icmpN_ge hX dX9_reads_69 (by omega) (by omega) (fun c10 => ?_) (fun c10 => ?_)
            · skip
              refine r_iload_n hX dX9_reads_92 rfl ?_
              exact r_ireturn hX hQ dX9_reads_93 ⟨Nat.le_of_ble_eq_true rfl, Nat.le_of_ble_eq_true rfl⟩ (PF.mk (by rw [oReads_y (by omega) c1 hbq (pfx_no hpk (wr_t1 c7 (by omega)) _ (Nat.le_of_lt hk)) hk]))
            · skip
              refine r_aload_n hX dX9_reads_72 rfl ?_
              refine r_getR hX dX9_reads_73 fl_X9_299 (hA.sh (q := q) (by omega)).1.1 rfl (hA.sh (q := q) (by omega)).1.2.2 ?_
              refine r_iload_n hX dX9_reads_76 rfl ?_
              refine r_aldN hX dX9_reads_77 (hA.sh (q := q) (by omega)).1.2.1 (by decide) (by omega) (B.2.2 q i) ((hB q (by omega)).2.2.2 i (by omega)) ?_
              refine r_aload_n hX dX9_reads_78 rfl ?_
              refine r_getR hX dX9_reads_79 fl_X9_10 (hA.1 100 (8, 0) rfl) rfl (hA.2.1 100 0 200 rfl) ?_
              refine r_getR hX dX9_reads_82 fl_X9_86 (hC.1 0 (2, 0) rfl) rfl (hC.2.1 0 5 4 rfl) ?_
              refine r_iload_n hX dX9_reads_85 rfl ?_
              refine r_callVF (As := [.int (nI i)]) (rest := [.int (B.2.2 q i)]) hX (c_X8_meanOrZero 200 hC σ A hW hV i (by omega)) dX9_reads_86 cb_X9_309 (hC.1 4 (7, 0) rfl) rfl rfl ⟨Nat.le_of_ble_eq_true rfl, Nat.le_of_ble_eq_true rfl⟩ ⟨Nat.le_of_ble_eq_true rfl, Nat.le_of_ble_eq_true rfl⟩ (Nat.le_of_ble_eq_true rfl) ?_
              refine r_icmp_eq hX dX9_reads_89 (fun c11 => ?_) (fun c11 => ?_)
              · skip
                refine r_iincN (n := 1) hX [(0, .ref (L.1 100)), (1, .int (nI q)), (2, .ref (L.1 (110 + 2 * q))), (3, .int (nI (i + 1))), (4, .int (nI 1))] dX9_reads_94 rfl hN3 rfl ?_
                refine r_goto hX dX9_reads_97 ?_
                exact At.less (At.to (ls := [(0, .ref (L.1 100)), (1, .int (nI q)), (2, .ref (L.1 (110 + 2 * q))), (3, .int (nI (i + 1)))]) (ih5 (pfx_s hpk (wr_f2 (by omega) c11))) rfl rfl rfl) (by simp)
              · skip
                refine r_iload_n hX dX9_reads_92 rfl ?_
                exact r_ireturn hX hQ dX9_reads_93 ⟨Nat.le_of_ble_eq_true rfl, Nat.le_of_ble_eq_true rfl⟩ (PF.mk (by rw [oReads_y (by omega) c1 hbq (pfx_no hpk (wr_t2 c7 c11) _ (Nat.le_of_lt hk)) hk]))
      exact At.to (P3 0 (Nat.zero_le _) rfl) rfl rfl rfl
    · skip
      have hnq := none_of c2
      refine r_ldcw hX dX9_reads_24 ko_X9_291 ?_
      exact r_ireturn hX hQ dX9_reads_27 ⟨Nat.le_of_ble_eq_true rfl, Nat.le_of_ble_eq_true rfl⟩ (PF.mk (by rw [oReads_0 (by omega) c1 hnq]))
  · skip
    refine r_ldc hX dX9_reads_7 ko_X9_75 ?_
    exact r_ireturn hX hQ dX9_reads_9 ⟨Nat.le_of_ble_eq_true rfl, Nat.le_of_ble_eq_true rfl⟩ (PF.mk (by rw [oReads, if_neg (fun e => by rw [c1] at e; cases e)]))
