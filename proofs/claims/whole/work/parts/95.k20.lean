set_option maxHeartbeats 4000000 in
set_option maxRecDepth 100000 in
theorem c_X2_put {l : Launch} {D : Ds} {L : La}  (hA : CAt L) (σ : Me) (P : Tp) (key : Nat) (q : Lx) (C : List Nat) (n : Nat) (hps : PSc σ P key q C n) (lok : Lok P q) (v : Nat) (hC : C.length < 96) : Ct l yX2_put cX2_put 2 none { frames := 0, cells := 0, slots := 0, locals := 0 } D L σ [.ref (L.1 105), .int (nI (tcd key v))] (PV L (fun σ2 => PSc σ2 P key q (C ++ [v]) n ∧ Ex pYc σ σ2)) := by
  refine Ct.of (by decide) (Nat.le_of_ble_eq_true rfl) ?_
  intro X hl hD hnl hX0 hQ
  have hX : Ok X cX2_put RX2 "put" { frames := 0, cells := 0, slots := 0, locals := 0 } none := hX0
  have hP96 := hps.1.2.1
  have := lok.2.1; have := lok.2.2.1
  show At X L σ 0 0 [(0, .ref (L.1 105)), (1, .int (nI (tcd key v)))] 0 []
  refine r_aload_n hX dX2_put_0 rfl ?_
  refine r_getIV hX dX2_put_1 fl_X2_15 (hA.1 105 (1, 0) rfl) rfl (nI C.length) (hps).2.2.2.2.1 ?_
  refine r_aload_n hX dX2_put_4 rfl ?_
  refine r_getR hX dX2_put_5 fl_X2_9 (hA.1 105 (1, 0) rfl) rfl (hA.2.1 105 1 106 rfl) ?_
  refine r_alen hX dX2_put_8 (hA.1 106 (10, 96) rfl) (by decide) (by decide) ?_
  refine r_icmpN_ge hX dX2_put_9 (by omega) (by decide) (fun c1 => absurd c1 (by omega)) (fun c1 => ?_)
  refine r_aload_n hX dX2_put_12 rfl ?_
  refine r_getR hX dX2_put_13 fl_X2_9 (hA.1 105 (1, 0) rfl) rfl (hA.2.1 105 1 106 rfl) ?_
  refine r_aload_n hX dX2_put_16 rfl ?_
  refine r_getIV hX dX2_put_17 fl_X2_15 (hA.1 105 (1, 0) rfl) rfl (nI C.length) (hps).2.2.2.2.1 ?_
  refine r_iload_n hX dX2_put_20 rfl ?_
  refine r_astN hX dX2_put_21 (hA.1 106 (10, 96) rfl) (by decide) (by omega) ?_
  refine r_aload_n hX dX2_put_22 rfl ?_
  refine r_dup hX dX2_put_23 rfl ?_
  refine r_getIV hX dX2_put_24 fl_X2_15 (hA.1 105 (1, 0) rfl) rfl (nI C.length) (by rw [up_n (by omega)]; exact (hps).2.2.2.2.1) ?_
  refine r_iconst hX (nI 1) dX2_put_27 rfl ?_
  refine r_iaddN hX dX2_put_28 ?_
  refine r_putI hX dX2_put_29 fl_X2_15 (hA.1 105 (1, 0) rfl) rfl rfl rfl rfl ?_
  exact r_return hX hQ dX2_put_32 ⟨Nat.le_of_ble_eq_true rfl, Nat.le_of_ble_eq_true rfl⟩ (PV.mk ⟨PSc.put hps v, Ex.up (Ex.up (Ex.rf σ) rfl) rfl⟩)

set_option maxHeartbeats 4000000 in
set_option maxRecDepth 100000 in
theorem c_X2_putB {l : Launch} {D : Ds} {L : La}  (hA : CAt L) (σ : Me) (f : Nat) (hf : FLc σ f) (v : Int32) : Ct l yX2_put cX2_put 2 none { frames := 0, cells := 0, slots := 0, locals := 0 } D L σ [.ref (L.1 105), .int v] (PV L (fun σ2 => FLc σ2 f ∧ Ex pYc σ σ2)) := by
  refine Ct.of (by decide) (Nat.le_of_ble_eq_true rfl) ?_
  intro X hl hD hnl hX0 hQ
  have hX : Ok X cX2_put RX2 "put" { frames := 0, cells := 0, slots := 0, locals := 0 } none := hX0
  obtain ⟨m, hm96, hm⟩ := hf.2
  show At X L σ 0 0 [(0, .ref (L.1 105)), (1, .int v)] 0 []
  refine r_aload_n hX dX2_put_0 rfl ?_
  refine r_getIV hX dX2_put_1 fl_X2_15 (hA.1 105 (1, 0) rfl) rfl (nI m) hm ?_
  refine r_aload_n hX dX2_put_4 rfl ?_
  refine r_getR hX dX2_put_5 fl_X2_9 (hA.1 105 (1, 0) rfl) rfl (hA.2.1 105 1 106 rfl) ?_
  refine r_alen hX dX2_put_8 (hA.1 106 (10, 96) rfl) (by decide) (by decide) ?_
  refine r_icmpN_ge hX dX2_put_9 (by omega) (by decide) (fun c1 => ?_) (fun c1 => ?_)
  · skip
    exact r_return hX hQ dX2_put_32 ⟨Nat.le_of_ble_eq_true rfl, Nat.le_of_ble_eq_true rfl⟩ (PV.mk ⟨hf, Ex.rf σ⟩)
  · skip
    refine r_aload_n hX dX2_put_12 rfl ?_
    refine r_getR hX dX2_put_13 fl_X2_9 (hA.1 105 (1, 0) rfl) rfl (hA.2.1 105 1 106 rfl) ?_
    refine r_aload_n hX dX2_put_16 rfl ?_
    refine r_getIV hX dX2_put_17 fl_X2_15 (hA.1 105 (1, 0) rfl) rfl (nI m) hm ?_
    refine r_iload_n hX dX2_put_20 rfl ?_
    refine r_astN hX dX2_put_21 (hA.1 106 (10, 96) rfl) (by decide) (by omega) ?_
    refine r_aload_n hX dX2_put_22 rfl ?_
    refine r_dup hX dX2_put_23 rfl ?_
    refine r_getIV hX dX2_put_24 fl_X2_15 (hA.1 105 (1, 0) rfl) rfl (nI m) (by rw [up_n (by omega)]; exact hm) ?_
    refine r_iconst hX (nI 1) dX2_put_27 rfl ?_
    refine r_iaddN hX dX2_put_28 ?_
    refine r_putI hX dX2_put_29 fl_X2_15 (hA.1 105 (1, 0) rfl) rfl rfl rfl rfl ?_
    exact r_return hX hQ dX2_put_32 ⟨Nat.le_of_ble_eq_true rfl, Nat.le_of_ble_eq_true rfl⟩ (PV.mk ⟨⟨(up_n (by omega)).trans ((up_n (by omega)).trans hf.1), m + 1, by omega, up_s⟩, Ex.up (Ex.up (Ex.rf σ) rfl) rfl⟩)

set_option maxHeartbeats 4000000 in
set_option maxRecDepth 100000 in
theorem c_X2_leaf {l : Launch} {D : Ds} {L : La}  (hA : CAt L) (σ : Me) (P : Tp) (key : Nat) (q : Lx) (C : List Nat) (n : Nat) (hps : PSc σ P key q C n) (lok : Lok P q) (v : Nat) (hC : C.length < 96) (hw : OKw q) : Ct l yX2_leaf cX2_leaf 2 none { frames := 2, cells := 0, slots := 0, locals := 44 } D L σ [.ref (L.1 105), .int (nI (tcd key v))] (PV L (fun σ2 => PSc σ2 P key (nxq P q) (C ++ [v]) (n + 1) ∧ Ex pYc σ σ2)) := by
  refine Ct.of (by decide) (Nat.le_of_ble_eq_true rfl) ?_
  intro X hl hD hnl hX0 hQ
  have hX : Ok X cX2_leaf RX2 "leaf" { frames := 2, cells := 0, slots := 0, locals := 44 } none := hX0
  have hP96 := hps.1.2.1
  have := lok.2.1; have := lok.2.2.1
  show At X L σ 0 0 [(0, .ref (L.1 105)), (1, .int (nI (tcd key v)))] 0 []
  refine r_aload_n hX dX2_leaf_0 rfl ?_
  refine r_iload_n hX dX2_leaf_1 rfl ?_
  refine r_callVV (As := [.int (nI (tcd key v))]) (rest := []) hX (c_X2_put hA σ P key q C n hps lok v (by (try simp only [List.length_append, List.length_cons, List.length_nil]); omega)) dX2_leaf_2 cb_X2_100 (hA.1 105 (1, 0) rfl) rfl rfl ⟨Nat.le_of_ble_eq_true rfl, Nat.le_of_ble_eq_true rfl⟩ ⟨Nat.le_of_ble_eq_true rfl, Nat.le_of_ble_eq_true rfl⟩ (Nat.le_of_ble_eq_true rfl) (fun σ1 h2 => ?_)
  obtain ⟨hp3, hx4⟩ := h2
  refine r_aload_n hX dX2_leaf_5 rfl ?_
  refine r_dup hX dX2_leaf_6 rfl ?_
  refine r_getIV hX dX2_leaf_7 fl_X2_19 (hA.1 105 (1, 0) rfl) rfl (nI n) (hp3).2.2.2.2.2.1 ?_
  refine r_iconst hX (nI 1) dX2_leaf_10 rfl ?_
  refine r_iaddN hX dX2_leaf_11 ?_
  refine r_putI hX dX2_leaf_12 fl_X2_19 (hA.1 105 (1, 0) rfl) rfl rfl rfl rfl ?_
  have hp5 := PSc.lv hp3 (n + 1)
  refine r_aload_n hX dX2_leaf_15 rfl ?_
  refine r_callVV (As := []) (rest := []) hX (c_X2_step hA (up σ1 105 3 (nI (n + 1))) P (hp5).1 q.2.2.1 (nxN q) (wwB q) (lok).2.2.1 (nxN_le _) (hp5).2.1.1 (hp5).2.1.2.2 (ww_nx hw)) dX2_leaf_16 cb_X2_41 (hA.1 105 (1, 0) rfl) rfl rfl ⟨Nat.le_of_ble_eq_true rfl, Nat.le_of_ble_eq_true rfl⟩ ⟨Nat.le_of_ble_eq_true rfl, Nat.le_of_ble_eq_true rfl⟩ (Nat.le_of_ble_eq_true rfl) (fun σ6 h7 => ?_)
  obtain ⟨hl8, hx9⟩ := h7
  have hp10 : PSc σ6 P key (nxq P q) (C ++ [v]) (n + 1) := PSc.nx hp5 hx9 hl8
  have hlok11 := (lok).nx
  exact r_return hX hQ dX2_leaf_19 ⟨Nat.le_of_ble_eq_true rfl, Nat.le_of_ble_eq_true rfl⟩ (PV.mk ⟨hp10, (Ex.tr (Ex.up (Ex.tr (Ex.rf σ) hx4) rfl) (pXc_pYc hx9))⟩)

set_option maxHeartbeats 4000000 in
set_option maxRecDepth 100000 in
theorem c_X2_levelOfNext {l : Launch} {D : Ds} {L : La}  (hA : CAt L) (σ : Me) (P : Tp) (key : Nat) (q : Lx) (C : List Nat) (n : Nat) (hps : PSc σ P key q C n) (lok : Lok P q) : Ct l yX2_levelOfNext cX2_levelOfNext 1 (some .int) { frames := 0, cells := 0, slots := 0, locals := 0 } D L σ [.ref (L.1 105)] (PF L σ (lvI P q)) := by
  refine Ct.of (by decide) (Nat.le_of_ble_eq_true rfl) ?_
  intro X hl hD hnl hX0 hQ
  have hX : Ok X cX2_levelOfNext RX2 "levelOfNext" { frames := 0, cells := 0, slots := 0, locals := 0 } (some .int) := hX0
  have hP96 := hps.1.2.1
  have := lok.2.1; have := lok.2.2.1
  show At X L σ 0 0 [(0, .ref (L.1 105))] 0 []
  refine r_aload_n hX dX2_levelOfNext_0 rfl ?_
  refine r_getIV hX dX2_levelOfNext_1 fl_X2_28 (hA.1 105 (1, 0) rfl) rfl (nI (nxN q)) (hps).2.1.1 ?_
  refine r_iconst hX (nI 1) dX2_levelOfNext_4 rfl ?_
  refine r_icmpN_eq hX dX2_levelOfNext_5 (by have := nxN_le q; omega) (by decide) (fun c1 => ?_) (fun c1 => ?_)
  · skip
    have hql := lok.2.2.2 (by have := (nx1 lok).mp c1; omega)
    have hb := (hps.1.2.2 q.1 (by omega)).2
    refine r_aload_n hX dX2_levelOfNext_10 rfl ?_
    refine r_getR hX dX2_levelOfNext_11 fl_X2_37 (hA.1 105 (1, 0) rfl) rfl (hA.2.1 105 0 103 rfl) ?_
    refine r_getR hX dX2_levelOfNext_14 fl_X2_68 (hA.1 103 (5, 0) rfl) rfl (hA.2.1 103 0 104 rfl) ?_
    refine r_aload_n hX dX2_levelOfNext_17 rfl ?_
    refine r_getIV hX dX2_levelOfNext_18 fl_X2_31 (hA.1 105 (1, 0) rfl) rfl (nI q.1) (hps).2.1.2.1 ?_
    refine r_baldN hX dX2_levelOfNext_21 (hA.1 104 (11, 96) rfl) (by decide) (by omega) (sb (P.2 q.1)) ((hps).1.2.2 q.1 (by omega)).1 ?_
    by_cases e2 : (sb (P.2 q.1)) = nI 38
    · skip
      rw [e2]
      refine r_lookN (v := 38) hX 106 dX2_levelOfNext_22 (by decide) (by decide) 84 rfl (by decide) ?_
      refine r_iconst hX (nI 1) dX2_levelOfNext_106 rfl ?_
      exact r_ireturn hX hQ dX2_levelOfNext_107 ⟨Nat.le_of_ble_eq_true rfl, Nat.le_of_ble_eq_true rfl⟩ (PF.mk (by unfold lvI lvq; rw [if_pos ((nx1 lok).mp c1), (sb_eq hb (by decide)).mp e2]; rfl))
    by_cases e3 : (sb (P.2 q.1)) = nI 42
    · skip
      rw [e3]
      refine r_lookN (v := 42) hX 112 dX2_levelOfNext_22 (by decide) (by decide) 90 rfl (by decide) ?_
      refine r_iconst hX (nI 4) dX2_levelOfNext_112 rfl ?_
      exact r_ireturn hX hQ dX2_levelOfNext_113 ⟨Nat.le_of_ble_eq_true rfl, Nat.le_of_ble_eq_true rfl⟩ (PF.mk (by unfold lvI lvq; rw [if_pos ((nx1 lok).mp c1), (sb_eq hb (by decide)).mp e3]; rfl))
    by_cases e4 : (sb (P.2 q.1)) = nI 43
    · skip
      rw [e4]
      refine r_lookN (v := 43) hX 110 dX2_levelOfNext_22 (by decide) (by decide) 88 rfl (by decide) ?_
      refine r_iconst hX (nI 3) dX2_levelOfNext_110 rfl ?_
      exact r_ireturn hX hQ dX2_levelOfNext_111 ⟨Nat.le_of_ble_eq_true rfl, Nat.le_of_ble_eq_true rfl⟩ (PF.mk (by unfold lvI lvq; rw [if_pos ((nx1 lok).mp c1), (sb_eq hb (by decide)).mp e4]; rfl))
    by_cases e5 : (sb (P.2 q.1)) = nI 45
    · skip
      rw [e5]
      refine r_lookN (v := 45) hX 110 dX2_levelOfNext_22 (by decide) (by decide) 88 rfl (by decide) ?_
      refine r_iconst hX (nI 3) dX2_levelOfNext_110 rfl ?_
      exact r_ireturn hX hQ dX2_levelOfNext_111 ⟨Nat.le_of_ble_eq_true rfl, Nat.le_of_ble_eq_true rfl⟩ (PF.mk (by unfold lvI lvq; rw [if_pos ((nx1 lok).mp c1), (sb_eq hb (by decide)).mp e5]; rfl))
    by_cases e6 : (sb (P.2 q.1)) = nI 47
    · skip
      rw [e6]
      refine r_lookN (v := 47) hX 112 dX2_levelOfNext_22 (by decide) (by decide) 90 rfl (by decide) ?_
      refine r_iconst hX (nI 4) dX2_levelOfNext_112 rfl ?_
      exact r_ireturn hX hQ dX2_levelOfNext_113 ⟨Nat.le_of_ble_eq_true rfl, Nat.le_of_ble_eq_true rfl⟩ (PF.mk (by unfold lvI lvq; rw [if_pos ((nx1 lok).mp c1), (sb_eq hb (by decide)).mp e6]; rfl))
    by_cases e7 : (sb (P.2 q.1)) = nI 60
    · skip
      rw [e7]
      refine r_lookN (v := 60) hX 108 dX2_levelOfNext_22 (by decide) (by decide) 86 rfl (by decide) ?_
      refine r_iconst hX (nI 2) dX2_levelOfNext_108 rfl ?_
      exact r_ireturn hX hQ dX2_levelOfNext_109 ⟨Nat.le_of_ble_eq_true rfl, Nat.le_of_ble_eq_true rfl⟩ (PF.mk (by unfold lvI lvq; rw [if_pos ((nx1 lok).mp c1), (sb_eq hb (by decide)).mp e7]; rfl))
    by_cases e8 : (sb (P.2 q.1)) = nI 61
    · skip
      rw [e8]
      refine r_lookN (v := 61) hX 108 dX2_levelOfNext_22 (by decide) (by decide) 86 rfl (by decide) ?_
      refine r_iconst hX (nI 2) dX2_levelOfNext_108 rfl ?_
      exact r_ireturn hX hQ dX2_levelOfNext_109 ⟨Nat.le_of_ble_eq_true rfl, Nat.le_of_ble_eq_true rfl⟩ (PF.mk (by unfold lvI lvq; rw [if_pos ((nx1 lok).mp c1), (sb_eq hb (by decide)).mp e8]; rfl))
    by_cases e9 : (sb (P.2 q.1)) = nI 62
    · skip
      rw [e9]
      refine r_lookN (v := 62) hX 108 dX2_levelOfNext_22 (by decide) (by decide) 86 rfl (by decide) ?_
      refine r_iconst hX (nI 2) dX2_levelOfNext_108 rfl ?_
      exact r_ireturn hX hQ dX2_levelOfNext_109 ⟨Nat.le_of_ble_eq_true rfl, Nat.le_of_ble_eq_true rfl⟩ (PF.mk (by unfold lvI lvq; rw [if_pos ((nx1 lok).mp c1), (sb_eq hb (by decide)).mp e9]; rfl))
    by_cases e10 : (sb (P.2 q.1)) = nI 124
    · skip
      rw [e10]
      refine r_lookN (v := 124) hX 104 dX2_levelOfNext_22 (by decide) (by decide) 82 rfl (by decide) ?_
      refine r_iconst hX (nI 0) dX2_levelOfNext_104 rfl ?_
      exact r_ireturn hX hQ dX2_levelOfNext_105 ⟨Nat.le_of_ble_eq_true rfl, Nat.le_of_ble_eq_true rfl⟩ (PF.mk (by unfold lvI lvq; rw [if_pos ((nx1 lok).mp c1), (sb_eq hb (by decide)).mp e10]; rfl))
    refine r_lookup hX 114 dX2_levelOfNext_22 (by decide) 92 (by have := ne_toInt (by decide) e2; have := ne_toInt (by decide) e3; have := ne_toInt (by decide) e4; have := ne_toInt (by decide) e5; have := ne_toInt (by decide) e6; have := ne_toInt (by decide) e7; have := ne_toInt (by decide) e8; have := ne_toInt (by decide) e9; have := ne_toInt (by decide) e10; simp [Op.lookupswitch.offset]; omega) (by decide) ?_
    refine r_iconst hX (-1) dX2_levelOfNext_114 rfl ?_
    exact r_ireturn hX hQ dX2_levelOfNext_115 ⟨Nat.le_of_ble_eq_true rfl, Nat.le_of_ble_eq_true rfl⟩ (PF.mk (by unfold lvI; rw [lv_no ((nx1 lok).mp c1) (fun v hv e => by rw [e] at hb; rcases hv with rfl | rfl | rfl | rfl | rfl | rfl | rfl | rfl | rfl <;> first | exact e2 (by rw [e]; rfl) | exact e3 (by rw [e]; rfl) | exact e4 (by rw [e]; rfl) | exact e5 (by rw [e]; rfl) | exact e6 (by rw [e]; rfl) | exact e7 (by rw [e]; rfl) | exact e8 (by rw [e]; rfl) | exact e9 (by rw [e]; rfl) | exact e10 (by rw [e]; rfl)), if_neg (by decide)]))
  · skip
    refine r_iconst hX (-1) dX2_levelOfNext_8 rfl ?_
    exact r_ireturn hX hQ dX2_levelOfNext_9 ⟨Nat.le_of_ble_eq_true rfl, Nat.le_of_ble_eq_true rfl⟩ (PF.mk (by unfold lvI lvq; rw [if_neg (fun e => c1 ((nx1 lok).mpr e)), if_neg (by decide)]))

set_option maxHeartbeats 4000000 in
set_option maxRecDepth 100000 in
theorem c_X2_close {l : Launch} {D : Ds} {L : La}  (hA : CAt L) (σ : Me) (P : Tp) (key : Nat) (q : Lx) (C : List Nat) (n : Nat) (hps : PSc σ P key q C n) (lok : Lok P q) (hC : C.length ≤ 96) : Ct l yX2_close cX2_close 1 none { frames := 2, cells := 0, slots := 0, locals := 44 } D L σ [.ref (L.1 105)] (PV L (fun σ2 => PQc σ2 P key C n (if sgB P q 41 = true then .inr (nxq P q, [], 0) else .inl q.1) ∧ Ex pYc σ σ2)) := by
  refine Ct.of (by decide) (Nat.le_of_ble_eq_true rfl) ?_
  intro X hl hD hnl hX0 hQ
  have hX : Ok X cX2_close RX2 "close" { frames := 2, cells := 0, slots := 0, locals := 44 } none := hX0
  have hP96 := hps.1.2.1
  have := lok.2.1; have := lok.2.2.1
  show At X L σ 0 0 [(0, .ref (L.1 105))] 0 []
  refine r_aload_n hX dX2_close_0 rfl ?_
  refine r_getIV hX dX2_close_1 fl_X2_25 (hA.1 105 (1, 0) rfl) rfl (-1) (hps).2.2.1 ?_
  refine r_if_lt hX dX2_close_4 (fun c1 => ?_) (fun c1 => absurd c1 (by decide))
  refine r_aload_n hX dX2_close_8 rfl ?_
  refine r_bipush hX (nI 41) dX2_close_9 rfl ?_
  refine r_callVF (As := [.int (nI 41)]) (rest := []) hX (c_X2_isMark hA σ P (hps).1 q (hps).2.1 lok 41 (by decide)) dX2_close_11 cb_X2_113 (hA.1 105 (1, 0) rfl) rfl rfl ⟨Nat.le_of_ble_eq_true rfl, Nat.le_of_ble_eq_true rfl⟩ ⟨Nat.le_of_ble_eq_true rfl, Nat.le_of_ble_eq_true rfl⟩ (Nat.le_of_ble_eq_true rfl) ?_
  refine r_ifB_eq hX dX2_close_14 (fun c2 => ?_) (fun c2 => ?_)
  · skip
    refine r_aload_n hX dX2_close_24 rfl ?_
    refine r_aload_n hX dX2_close_25 rfl ?_
    refine r_getIV hX dX2_close_26 fl_X2_31 (hA.1 105 (1, 0) rfl) rfl (nI q.1) (hps).2.1.2.1 ?_
    refine r_putI hX dX2_close_29 fl_X2_25 (hA.1 105 (1, 0) rfl) rfl rfl rfl rfl ?_
    exact r_return hX hQ dX2_close_32 ⟨Nat.le_of_ble_eq_true rfl, Nat.le_of_ble_eq_true rfl⟩ (PV.mk (by rw [if_neg (by rw [c2]; decide)]; exact ⟨PSc.fl hps hC q.1, Ex.up (Ex.rf σ) rfl⟩))
  · skip
    refine r_aload_n hX dX2_close_17 rfl ?_
    refine r_callVV (As := []) (rest := []) hX (c_X2_step hA σ P (hps).1 q.2.2.1 (nxN q) (wwB q) (lok).2.2.1 (nxN_le _) (hps).2.1.1 (hps).2.1.2.2 (ww_nx (ok3 (by have z := c2; unfold sgB at z; simp at z; exact z.1)))) dX2_close_18 cb_X2_41 (hA.1 105 (1, 0) rfl) rfl rfl ⟨Nat.le_of_ble_eq_true rfl, Nat.le_of_ble_eq_true rfl⟩ ⟨Nat.le_of_ble_eq_true rfl, Nat.le_of_ble_eq_true rfl⟩ (Nat.le_of_ble_eq_true rfl) (fun σ3 h4 => ?_)
    obtain ⟨hl5, hx6⟩ := h4
    have hp7 : PSc σ3 P key (nxq P q) C n := PSc.nx hps hx6 hl5
    have hlok8 := (lok).nx
    refine r_goto hX dX2_close_21 ?_
    exact r_return hX hQ dX2_close_32 ⟨Nat.le_of_ble_eq_true rfl, Nat.le_of_ble_eq_true rfl⟩ (PV.mk (by rw [if_pos c2]; exact ⟨PSc.as hp7 (List.append_nil _).symm rfl, (Ex.tr (Ex.rf σ) (pXc_pYc hx6))⟩))

set_option maxHeartbeats 4000000 in
set_option maxRecDepth 100000 in
theorem c_X2_closeB {l : Launch} {D : Ds} {L : La}  (hA : CAt L) (σ : Me) (f : Nat) (hf : FLc σ f) (hf2 : f < 2 ^ 31) : Ct l yX2_close cX2_close 1 none { frames := 0, cells := 0, slots := 0, locals := 0 } D L σ [.ref (L.1 105)] (PV L (fun σ2 => σ2 = σ)) := by
  refine Ct.of (by decide) (Nat.le_of_ble_eq_true rfl) ?_
  intro X hl hD hnl hX0 hQ
  have hX : Ok X cX2_close RX2 "close" { frames := 0, cells := 0, slots := 0, locals := 0 } none := hX0
  show At X L σ 0 0 [(0, .ref (L.1 105))] 0 []
  refine r_aload_n hX dX2_close_0 rfl ?_
  refine r_getIV hX dX2_close_1 fl_X2_25 (hA.1 105 (1, 0) rfl) rfl (nI f) hf.1 ?_
  refine r_ifN_lt hX dX2_close_4 (by omega) ?_
  exact r_return hX hQ dX2_close_7 ⟨Nat.le_of_ble_eq_true rfl, Nat.le_of_ble_eq_true rfl⟩ (PV.mk rfl)
