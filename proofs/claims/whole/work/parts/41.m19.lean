set_option maxHeartbeats 4000000 in
set_option maxRecDepth 100000 in
theorem c_X10_failsR {l : Launch} {D : Ds} {L : La} (hM : MAt L) (σ : Me) (h26 : σ 0 26 = nI 0) (b : Nat) (h21 : σ 0 21 = nI b) : Ct l yX10_fails cX10_fails 1 none { frames := 0, cells := 0, slots := 0, locals := 0 } D L σ [.ref (L.1 0)] (PV L (fun σ2 => (σ2 0 26 = nI 1 ∧ σ2 0 27 = nI b) ∧ Ex pY σ σ2)) := by
  refine Ct.of (by decide) (Nat.le_of_ble_eq_true rfl) ?_
  intro X hl hD hnl hX0 hQ
  have hX : Ok X cX10_fails RX10 "fails" { frames := 0, cells := 0, slots := 0, locals := 0 } none := hX0
  show At X L σ 0 0 [(0, .ref (L.1 0))] 0 []
  refine r_aload_n hX dX10_fails_0 rfl ?_
  refine r_getIV hX dX10_fails_1 fl_X10_264 (hM.1 0 (9, 0) rfl) rfl (nI 0) h26 ?_
  refine r_ifN_ne hX dX10_fails_4 (by decide) (fun c1 => absurd c1 (by decide)) (fun c1 => ?_)
  refine r_aload_n hX dX10_fails_7 rfl ?_
  refine r_iconst hX (nI 1) dX10_fails_8 rfl ?_
  refine r_putI hX dX10_fails_9 fl_X10_264 (hM.1 0 (9, 0) rfl) rfl rfl rfl rfl ?_
  refine r_aload_n hX dX10_fails_12 rfl ?_
  refine r_aload_n hX dX10_fails_13 rfl ?_
  refine r_getIV hX dX10_fails_14 fl_X10_246 (hM.1 0 (9, 0) rfl) rfl (nI b) (by rw [up_n (by omega)]; exact h21) ?_
  refine r_putI hX dX10_fails_17 fl_X10_267 (hM.1 0 (9, 0) rfl) rfl rfl rfl rfl ?_
  exact r_return hX hQ dX10_fails_20 ⟨Nat.le_of_ble_eq_true rfl, Nat.le_of_ble_eq_true rfl⟩ (PV.mk ⟨⟨by rw [up_n (by omega), up_s], up_s⟩, Ex.up (Ex.up (Ex.rf σ) rfl) rfl⟩)

set_option maxHeartbeats 4000000 in
set_option maxRecDepth 100000 in
theorem c_X10_reads {l : Launch} {D : Ds} {L : La} (hM : MAt L) (σ : Me) (P : Tp) (hT0 : RT σ P) (K : Nat → Nat × Nat) (hMS : MS D K) : Ct l yX10_reads cX10_reads 1 none { frames := 80, cells := 0, slots := 0, locals := 2400 } D L σ [.ref (L.1 0)] (PV L (fun σ2 => RQ σ2 (rdT P) ∧ Ex pY σ σ2)) := by
  refine Ct.of (by decide) (Nat.le_of_ble_eq_true rfl) ?_
  intro X hl hD hnl hX0 hQ
  have hX : Ok X cX10_reads RX10 "reads" { frames := 80, cells := 0, slots := 0, locals := 2400 } none := hX0
  obtain ⟨hk0, hk1, hk2⟩ := hMS.2 (xs X) (by rw [← hD]; exact hX.2.2.2.2.2.1.2.2.1)
  have hP96 := hT0.2.1
  show At X L σ 0 0 [(0, .ref (L.1 0))] 0 []
  refine r_aload_n hX dX10_reads_0 rfl ?_
  refine r_iconst hX (nI 0) dX10_reads_1 rfl ?_
  refine r_putI hX dX10_reads_2 fl_X10_240 (hM.1 0 (9, 0) rfl) rfl rfl rfl rfl ?_
  refine r_aload_n hX dX10_reads_5 rfl ?_
  refine r_iconst hX (nI 0) dX10_reads_6 rfl ?_
  refine r_putI hX dX10_reads_7 fl_X10_236 (hM.1 0 (9, 0) rfl) rfl rfl rfl rfl ?_
  refine r_aload_n hX dX10_reads_10 rfl ?_
  refine r_iconst hX (nI 0) dX10_reads_11 rfl ?_
  refine r_putI hX dX10_reads_12 fl_X10_264 (hM.1 0 (9, 0) rfl) rfl rfl rfl rfl ?_
  refine r_aload_n hX dX10_reads_15 rfl ?_
  refine r_iconst hX (nI 0) dX10_reads_16 rfl ?_
  refine r_putI hX dX10_reads_17 fl_X10_303 (hM.1 0 (9, 0) rfl) rfl rfl rfl rfl ?_
  refine r_aload_n hX dX10_reads_20 rfl ?_
  refine r_iconst hX (nI 0) dX10_reads_21 rfl ?_
  refine r_putI hX dX10_reads_22 fl_X10_288 (hM.1 0 (9, 0) rfl) rfl rfl rfl rfl ?_
  refine r_aload_n hX dX10_reads_25 rfl ?_
  refine r_iconst hX (nI 0) dX10_reads_26 rfl ?_
  refine r_putI hX dX10_reads_27 fl_X10_270 (hM.1 0 (9, 0) rfl) rfl rfl rfl rfl ?_
  refine r_aload_n hX dX10_reads_30 rfl ?_
  refine r_iconst hX (nI 0) dX10_reads_31 rfl ?_
  refine r_putI hX dX10_reads_32 fl_X10_313 (hM.1 0 (9, 0) rfl) rfl rfl rfl rfl ?_
  have hT1 : RT (up (up (up (up (up (up (up σ 0 20 (nI 0)) 0 25 (nI 0)) 0 26 (nI 0)) 0 28 (nI 0)) 0 29 (nI 0)) 0 31 (nI 0)) 0 32 (nI 0)) P := (((((((hT0.other (by omega) (by omega)).other (by omega) (by omega)).other (by omega) (by omega)).other (by omega) (by omega)).other (by omega) (by omega)).other (by omega) (by omega)).other (by omega) (by omega))
  have hf2 : (up (up (up (up (up (up (up σ 0 20 (nI 0)) 0 25 (nI 0)) 0 26 (nI 0)) 0 28 (nI 0)) 0 29 (nI 0)) 0 31 (nI 0)) 0 32 (nI 0)) 0 20 = nI 0 := show (up (up (up (up (up (up (up σ 0 20 (nI 0)) 0 25 (nI 0)) 0 26 (nI 0)) 0 28 (nI 0)) 0 29 (nI 0)) 0 31 (nI 0)) 0 32 (nI 0)) 0 20 = nI 0 from (by rw [up_n (by omega), up_n (by omega), up_n (by omega), up_n (by omega), up_n (by omega), up_n (by omega), up_s])
  have hf3 : (up (up (up (up (up (up (up σ 0 20 (nI 0)) 0 25 (nI 0)) 0 26 (nI 0)) 0 28 (nI 0)) 0 29 (nI 0)) 0 31 (nI 0)) 0 32 (nI 0)) 0 25 = bI false := show (up (up (up (up (up (up (up σ 0 20 (nI 0)) 0 25 (nI 0)) 0 26 (nI 0)) 0 28 (nI 0)) 0 29 (nI 0)) 0 31 (nI 0)) 0 32 (nI 0)) 0 25 = nI 0 from (by rw [up_n (by omega), up_n (by omega), up_n (by omega), up_n (by omega), up_n (by omega), up_s])
  have hf4 : (up (up (up (up (up (up (up σ 0 20 (nI 0)) 0 25 (nI 0)) 0 26 (nI 0)) 0 28 (nI 0)) 0 29 (nI 0)) 0 31 (nI 0)) 0 32 (nI 0)) 0 26 = nI 0 := show (up (up (up (up (up (up (up σ 0 20 (nI 0)) 0 25 (nI 0)) 0 26 (nI 0)) 0 28 (nI 0)) 0 29 (nI 0)) 0 31 (nI 0)) 0 32 (nI 0)) 0 26 = nI 0 from (by rw [up_n (by omega), up_n (by omega), up_n (by omega), up_n (by omega), up_s])
  have hf5 : (up (up (up (up (up (up (up σ 0 20 (nI 0)) 0 25 (nI 0)) 0 26 (nI 0)) 0 28 (nI 0)) 0 29 (nI 0)) 0 31 (nI 0)) 0 32 (nI 0)) 0 28 = nI 0 := show (up (up (up (up (up (up (up σ 0 20 (nI 0)) 0 25 (nI 0)) 0 26 (nI 0)) 0 28 (nI 0)) 0 29 (nI 0)) 0 31 (nI 0)) 0 32 (nI 0)) 0 28 = nI 0 from (by rw [up_n (by omega), up_n (by omega), up_n (by omega), up_s])
  have hf6 : (up (up (up (up (up (up (up σ 0 20 (nI 0)) 0 25 (nI 0)) 0 26 (nI 0)) 0 28 (nI 0)) 0 29 (nI 0)) 0 31 (nI 0)) 0 32 (nI 0)) 0 29 = nI 0 := show (up (up (up (up (up (up (up σ 0 20 (nI 0)) 0 25 (nI 0)) 0 26 (nI 0)) 0 28 (nI 0)) 0 29 (nI 0)) 0 31 (nI 0)) 0 32 (nI 0)) 0 29 = nI 0 from (by rw [up_n (by omega), up_n (by omega), up_s])
  have hf7 : (up (up (up (up (up (up (up σ 0 20 (nI 0)) 0 25 (nI 0)) 0 26 (nI 0)) 0 28 (nI 0)) 0 29 (nI 0)) 0 31 (nI 0)) 0 32 (nI 0)) 0 31 = nI 0 := show (up (up (up (up (up (up (up σ 0 20 (nI 0)) 0 25 (nI 0)) 0 26 (nI 0)) 0 28 (nI 0)) 0 29 (nI 0)) 0 31 (nI 0)) 0 32 (nI 0)) 0 31 = nI 0 from (by rw [up_n (by omega), up_s])
  have hf8 : (up (up (up (up (up (up (up σ 0 20 (nI 0)) 0 25 (nI 0)) 0 26 (nI 0)) 0 28 (nI 0)) 0 29 (nI 0)) 0 31 (nI 0)) 0 32 (nI 0)) 0 32 = nI 0 := show (up (up (up (up (up (up (up σ 0 20 (nI 0)) 0 25 (nI 0)) 0 26 (nI 0)) 0 28 (nI 0)) 0 29 (nI 0)) 0 31 (nI 0)) 0 32 (nI 0)) 0 32 = nI 0 from up_s
  refine r_aload_n hX dX10_reads_35 rfl ?_
  refine r_callVV (As := []) (rest := []) hX (c_X10_next hM (up (up (up (up (up (up (up σ 0 20 (nI 0)) 0 25 (nI 0)) 0 26 (nI 0)) 0 28 (nI 0)) 0 29 (nI 0)) 0 31 (nI 0)) 0 32 (nI 0)) P hT1 0 false hf2 hf3 (Nat.zero_le _)) dX10_reads_36 cb_X10_294 (hM.1 0 (9, 0) rfl) rfl rfl ⟨by show _ ≤ 80; omega, by show _ ≤ 2400; omega⟩ ⟨Nat.le_of_ble_eq_true rfl, Nat.le_of_ble_eq_true rfl⟩ (Nat.le_of_ble_eq_true rfl) (fun σ9 h10 => ?_)
  obtain ⟨hl11, hx12⟩ := h10
  have hT13 := RT.ex hT1 hx12
  have hg14 : σ9 0 26 = nI 0 := (hx12 0 26 rfl).trans hf4
  have hg15 : σ9 0 28 = nI 0 := (hx12 0 28 rfl).trans hf5
  have hg16 : σ9 0 29 = nI 0 := (hx12 0 29 rfl).trans hf6
  have hg17 : σ9 0 31 = nI 0 := (hx12 0 31 rfl).trans hf7
  have hg18 : σ9 0 32 = nI 0 := (hx12 0 32 rfl).trans hf8
  refine r_aload_n hX dX10_reads_39 rfl ?_
  refine r_aload_n hX dX10_reads_40 rfl ?_
  refine r_ldcwS hX hk0 dX10_reads_41 ?_
  refine r_callVF (As := [.ref ((K 0).1)]) (rest := [.ref (L.1 0)]) hX (by rw [hl, hD]; exact c_X10_isKey hM σ9 P (nx P 0 false) hT13 hl11 (lok_first P) (hMS.1 0 (by decide))) dX10_reads_44 cb_X10_330 (hM.1 0 (9, 0) rfl) rfl rfl ⟨by show _ ≤ 80; omega, by show _ ≤ 2400; omega⟩ ⟨Nat.le_of_ble_eq_true rfl, Nat.le_of_ble_eq_true rfl⟩ (Nat.le_of_ble_eq_true rfl) ?_
  refine r_ifB_eq hX dX10_reads_47 (fun c19 => ?_) (fun c19 => ?_)
  · skip
    refine r_aload_n hX dX10_reads_54 rfl ?_
    refine r_ldcwS hX hk1 dX10_reads_55 ?_
    refine r_callVF (As := [.ref ((K 1).1)]) (rest := [.ref (L.1 0)]) hX (by rw [hl, hD]; exact c_X10_isKey hM σ9 P (nx P 0 false) hT13 hl11 (lok_first P) (hMS.1 1 (by decide))) dX10_reads_58 cb_X10_330 (hM.1 0 (9, 0) rfl) rfl rfl ⟨by show _ ≤ 80; omega, by show _ ≤ 2400; omega⟩ ⟨Nat.le_of_ble_eq_true rfl, Nat.le_of_ble_eq_true rfl⟩ (Nat.le_of_ble_eq_true rfl) ?_
    refine r_ifB_eq hX dX10_reads_61 (fun c20 => ?_) (fun c20 => ?_)
    · skip
      refine r_aload_n hX dX10_reads_68 rfl ?_
      refine r_ldcwS hX hk2 dX10_reads_69 ?_
      refine r_callVF (As := [.ref ((K 2).1)]) (rest := [.ref (L.1 0)]) hX (by rw [hl, hD]; exact c_X10_isKey hM σ9 P (nx P 0 false) hT13 hl11 (lok_first P) (hMS.1 2 (by decide))) dX10_reads_72 cb_X10_330 (hM.1 0 (9, 0) rfl) rfl rfl ⟨by show _ ≤ 80; omega, by show _ ≤ 2400; omega⟩ ⟨Nat.le_of_ble_eq_true rfl, Nat.le_of_ble_eq_true rfl⟩ (Nat.le_of_ble_eq_true rfl) ?_
      refine r_ifB_eq hX dX10_reads_75 (fun c21 => ?_) (fun c21 => ?_)
      · skip
        refine r_iconst hX (-1) dX10_reads_82 rfl ?_
        refine r_putI hX dX10_reads_83 fl_X10_282 (hM.1 0 (9, 0) rfl) rfl rfl rfl rfl ?_
        have hky : kyO P (nx P 0 false) = none := (by unfold kyO; rw [if_neg (by rw [c19]; decide), if_neg (by rw [c20]; decide), if_neg (by rw [c21]; decide)])
        have hz22 : (up σ9 0 30 (-1)) 0 26 = nI 0 := (up_n (by omega)).trans hg14
        have hz23 : (up σ9 0 30 (-1)) 0 21 = nI (nx P 0 false).1 := (up_n (by omega)).trans hl11.2.1
        have hz24 : (up σ9 0 30 (-1)) 0 30 = (-1) := up_s
        refine r_aload_n hX dX10_reads_86 rfl ?_
        refine r_getIV hX dX10_reads_87 fl_X10_282 (hM.1 0 (9, 0) rfl) rfl (-1) hz24 ?_
        refine r_if_ge hX dX10_reads_90 (fun c25 => absurd c25 (by decide)) (fun c25 => ?_)
        refine r_aload_n hX dX10_reads_93 rfl ?_
        refine r_callVV (As := []) (rest := []) hX (c_X10_failsR hM (up σ9 0 30 (-1)) hz22 _ hz23) dX10_reads_94 cb_X10_291 (hM.1 0 (9, 0) rfl) rfl rfl ⟨by show _ ≤ 80; omega, by show _ ≤ 2400; omega⟩ ⟨Nat.le_of_ble_eq_true rfl, Nat.le_of_ble_eq_true rfl⟩ (Nat.le_of_ble_eq_true rfl) (fun σ26 h27 => ?_)
        exact r_return hX hQ dX10_reads_97 ⟨Nat.le_of_ble_eq_true rfl, Nat.le_of_ble_eq_true rfl⟩ (PV.mk ⟨by rw [rdT_0 hky]; exact h27.1, Ex.tr (Ex.up (Ex.tr (Ex.up (Ex.up (Ex.up (Ex.up (Ex.up (Ex.up (Ex.up (Ex.rf σ) rfl) rfl) rfl) rfl) rfl) rfl) rfl) (pX_pY hx12)) rfl) h27.2⟩)
      · skip
        refine r_iconst hX (nI 2) dX10_reads_78 rfl ?_
        refine r_goto hX dX10_reads_79 ?_
        refine r_putI hX dX10_reads_83 fl_X10_282 (hM.1 0 (9, 0) rfl) rfl rfl rfl rfl ?_
        obtain ⟨key, hke⟩ : ∃ z, z = 2 := ⟨_, rfl⟩
        obtain ⟨d, hd⟩ : ∃ z, z = 70 := ⟨_, rfl⟩
        have hkey : key ≤ 2 := by omega
        have hp28 : PS (up σ9 0 30 (nI 2)) P key 0 0 (nx P 0 false) [] 0 := by rw [hke]; exact PS.start hT13 hl11 hg14 hg15 hg16 hg17 hg18 _
        have hky : kyO P (nx P 0 false) = some key := by rw [hke]; exact (by unfold kyO; rw [if_neg (by rw [c19]; decide), if_neg (by rw [c20]; decide), if_pos c21])
        refine r_aload_n hX dX10_reads_86 rfl ?_
        refine r_getIV hX dX10_reads_87 fl_X10_282 (hM.1 0 (9, 0) rfl) rfl (nI key) hp28.2.2.2.2.2.1 ?_
        refine r_ifN_ge hX dX10_reads_90 (by omega) ?_
        refine r_aload_n hX dX10_reads_98 rfl ?_
        refine r_callVV (As := []) (rest := []) hX (c_X10_next hM (up σ9 0 30 (nI 2)) P (hp28).1 (nx P 0 false).2.2.1 (wwB (nx P 0 false)) (hp28).2.1.1 (hp28).2.1.2.2.2.2.2 ((lok_first P)).2.2.1) dX10_reads_99 cb_X10_294 (hM.1 0 (9, 0) rfl) rfl rfl ⟨by show _ ≤ 80; omega, by show _ ≤ 2400; omega⟩ ⟨Nat.le_of_ble_eq_true rfl, Nat.le_of_ble_eq_true rfl⟩ (Nat.le_of_ble_eq_true rfl) (fun σ29 h30 => ?_)
        obtain ⟨hl31, hx32⟩ := h30
        have hp33 : PS σ29 P key 0 0 (nxq P (nx P 0 false)) ([]) 0 := PS.nx hp28 hx32 hl31
        have hlok34 := ((lok_first P)).nx
        refine r_aload_n hX dX10_reads_102 rfl ?_
        refine r_callVV (As := []) (rest := []) hX (by rw [hl, hD]; exact (c_par hM P key hkey d).1 0 0 (by decide) (by decide) (by rw [hd]; decide) σ29 (nxq P (nx P 0 false)) ([]) 0 hp33 hlok34.1 (by (try simp only [List.length_append, List.length_cons, List.length_nil]); omega)) dX10_reads_103 cb_X10_306 (hM.1 0 (9, 0) rfl) rfl rfl ⟨by show _ ≤ 80; omega, by show _ ≤ 2400; omega⟩ ⟨Nat.le_of_ble_eq_true rfl, Nat.le_of_ble_eq_true rfl⟩ (Nat.le_of_ble_eq_true rfl) (fun σ35 h36 => ?_)
        obtain ⟨hq37, hx38⟩ := h36
        have hok39 := prs_ok P key d 0 0 0 (nxq P (nx P 0 false)) hlok34.1
        rcases hr40 : prs P key d 0 0 0 (nxq P (nx P 0 false)) with f41 | ⟨q42, c43, n44⟩
        · skip
          rw [hr40] at hq37
          refine r_aload_n hX dX10_reads_106 rfl ?_
          refine r_getIV hX dX10_reads_107 fl_X10_264 (hM.1 0 (9, 0) rfl) rfl (nI 1) hq37.1 ?_
          refine r_ifN_ne hX dX10_reads_110 (by decide) (fun c45 => ?_) (fun c45 => absurd c45 (by decide))
          exact r_return hX hQ dX10_reads_124 ⟨Nat.le_of_ble_eq_true rfl, Nat.le_of_ble_eq_true rfl⟩ (PV.mk ⟨by rw [rdT_k hky, ← hd, hr40]; exact ⟨hq37.1, hq37.2⟩, (Ex.tr (Ex.tr (Ex.up (Ex.tr (Ex.up (Ex.up (Ex.up (Ex.up (Ex.up (Ex.up (Ex.up (Ex.rf σ) rfl) rfl) rfl) rfl) rfl) rfl) rfl) (pX_pY hx12)) rfl) (pX_pY hx32)) hx38)⟩)
        · skip
          rw [hr40] at hq37 hok39
          have hp46 : PS σ35 P key 0 0 q42 ([] ++ c43) (0 + n44) := hq37
          have hl47 : Lok P q42 ∧ (nxq P (nx P 0 false)).1 + c43.length ≤ q42.1 ∧ (nxq P (nx P 0 false)).1 < q42.1 := hok39
          have := hl47.1.2.1; have := hl47.1.2.2.1
          refine r_aload_n hX dX10_reads_106 rfl ?_
          refine r_getIV hX dX10_reads_107 fl_X10_264 (hM.1 0 (9, 0) rfl) rfl (nI 0) hp46.2.2.1 ?_
          refine r_ifN_ne hX dX10_reads_110 (by decide) (fun c48 => absurd c48 (by decide)) (fun c48 => ?_)
          have hlx := lex_le (fun k hk => ((hp46).1.2.2 k hk).2) hl47.1
          refine r_aload_n hX dX10_reads_113 rfl ?_
          refine r_getIV hX dX10_reads_114 fl_X10_261 (hM.1 0 (9, 0) rfl) rfl (nI (mkN q42)) hp46.2.1.2.2.1 ?_
          refine r_ifN_eq hX dX10_reads_117 (by omega) (fun c49 => ?_) (fun c49 => ?_)
          · skip
            exact r_return hX hQ dX10_reads_124 ⟨Nat.le_of_ble_eq_true rfl, Nat.le_of_ble_eq_true rfl⟩ (PV.mk ⟨by rw [rdT_k hky, ← hd, hr40]; rw [rdE_y c49]; exact PS.rq hp46 (List.nil_append _) (Nat.zero_add _), (Ex.tr (Ex.tr (Ex.up (Ex.tr (Ex.up (Ex.up (Ex.up (Ex.up (Ex.up (Ex.up (Ex.up (Ex.rf σ) rfl) rfl) rfl) rfl) rfl) rfl) rfl) (pX_pY hx12)) rfl) (pX_pY hx32)) hx38)⟩)
          · skip
            refine r_aload_n hX dX10_reads_120 rfl ?_
            refine r_callVV (As := []) (rest := []) hX (c_X10_fails hM σ35 P key 0 0 q42 ([] ++ c43) (0 + n44) hp46 hl47.1) dX10_reads_121 cb_X10_291 (hM.1 0 (9, 0) rfl) rfl rfl ⟨by show _ ≤ 80; omega, by show _ ≤ 2400; omega⟩ ⟨Nat.le_of_ble_eq_true rfl, Nat.le_of_ble_eq_true rfl⟩ (Nat.le_of_ble_eq_true rfl) (fun σ50 h51 => ?_)
            obtain ⟨⟨h2652, h2753⟩, hx54⟩ := h51
            exact r_return hX hQ dX10_reads_124 ⟨Nat.le_of_ble_eq_true rfl, Nat.le_of_ble_eq_true rfl⟩ (PV.mk ⟨by rw [rdT_k hky, ← hd, hr40]; rw [rdE_n c49]; exact ⟨h2652, h2753⟩, (Ex.tr (Ex.tr (Ex.tr (Ex.up (Ex.tr (Ex.up (Ex.up (Ex.up (Ex.up (Ex.up (Ex.up (Ex.up (Ex.rf σ) rfl) rfl) rfl) rfl) rfl) rfl) rfl) (pX_pY hx12)) rfl) (pX_pY hx32)) hx38) hx54)⟩)
    · skip
      refine r_iconst hX (nI 1) dX10_reads_64 rfl ?_
      refine r_goto hX dX10_reads_65 ?_
      refine r_putI hX dX10_reads_83 fl_X10_282 (hM.1 0 (9, 0) rfl) rfl rfl rfl rfl ?_
      obtain ⟨key, hke⟩ : ∃ z, z = 1 := ⟨_, rfl⟩
      obtain ⟨d, hd⟩ : ∃ z, z = 70 := ⟨_, rfl⟩
      have hkey : key ≤ 2 := by omega
      have hp55 : PS (up σ9 0 30 (nI 1)) P key 0 0 (nx P 0 false) [] 0 := by rw [hke]; exact PS.start hT13 hl11 hg14 hg15 hg16 hg17 hg18 _
      have hky : kyO P (nx P 0 false) = some key := by rw [hke]; exact (by unfold kyO; rw [if_neg (by rw [c19]; decide), if_pos c20])
      refine r_aload_n hX dX10_reads_86 rfl ?_
      refine r_getIV hX dX10_reads_87 fl_X10_282 (hM.1 0 (9, 0) rfl) rfl (nI key) hp55.2.2.2.2.2.1 ?_
      refine r_ifN_ge hX dX10_reads_90 (by omega) ?_
      refine r_aload_n hX dX10_reads_98 rfl ?_
      refine r_callVV (As := []) (rest := []) hX (c_X10_next hM (up σ9 0 30 (nI 1)) P (hp55).1 (nx P 0 false).2.2.1 (wwB (nx P 0 false)) (hp55).2.1.1 (hp55).2.1.2.2.2.2.2 ((lok_first P)).2.2.1) dX10_reads_99 cb_X10_294 (hM.1 0 (9, 0) rfl) rfl rfl ⟨by show _ ≤ 80; omega, by show _ ≤ 2400; omega⟩ ⟨Nat.le_of_ble_eq_true rfl, Nat.le_of_ble_eq_true rfl⟩ (Nat.le_of_ble_eq_true rfl) (fun σ56 h57 => ?_)
      obtain ⟨hl58, hx59⟩ := h57
      have hp60 : PS σ56 P key 0 0 (nxq P (nx P 0 false)) ([]) 0 := PS.nx hp55 hx59 hl58
      have hlok61 := ((lok_first P)).nx
      refine r_aload_n hX dX10_reads_102 rfl ?_
      refine r_callVV (As := []) (rest := []) hX (by rw [hl, hD]; exact (c_par hM P key hkey d).1 0 0 (by decide) (by decide) (by rw [hd]; decide) σ56 (nxq P (nx P 0 false)) ([]) 0 hp60 hlok61.1 (by (try simp only [List.length_append, List.length_cons, List.length_nil]); omega)) dX10_reads_103 cb_X10_306 (hM.1 0 (9, 0) rfl) rfl rfl ⟨by show _ ≤ 80; omega, by show _ ≤ 2400; omega⟩ ⟨Nat.le_of_ble_eq_true rfl, Nat.le_of_ble_eq_true rfl⟩ (Nat.le_of_ble_eq_true rfl) (fun σ62 h63 => ?_)
      obtain ⟨hq64, hx65⟩ := h63
      have hok66 := prs_ok P key d 0 0 0 (nxq P (nx P 0 false)) hlok61.1
      rcases hr67 : prs P key d 0 0 0 (nxq P (nx P 0 false)) with f68 | ⟨q69, c70, n71⟩
      · skip
        rw [hr67] at hq64
        refine r_aload_n hX dX10_reads_106 rfl ?_
        refine r_getIV hX dX10_reads_107 fl_X10_264 (hM.1 0 (9, 0) rfl) rfl (nI 1) hq64.1 ?_
        refine r_ifN_ne hX dX10_reads_110 (by decide) (fun c72 => ?_) (fun c72 => absurd c72 (by decide))
        exact r_return hX hQ dX10_reads_124 ⟨Nat.le_of_ble_eq_true rfl, Nat.le_of_ble_eq_true rfl⟩ (PV.mk ⟨by rw [rdT_k hky, ← hd, hr67]; exact ⟨hq64.1, hq64.2⟩, (Ex.tr (Ex.tr (Ex.up (Ex.tr (Ex.up (Ex.up (Ex.up (Ex.up (Ex.up (Ex.up (Ex.up (Ex.rf σ) rfl) rfl) rfl) rfl) rfl) rfl) rfl) (pX_pY hx12)) rfl) (pX_pY hx59)) hx65)⟩)
      · skip
        rw [hr67] at hq64 hok66
        have hp73 : PS σ62 P key 0 0 q69 ([] ++ c70) (0 + n71) := hq64
        have hl74 : Lok P q69 ∧ (nxq P (nx P 0 false)).1 + c70.length ≤ q69.1 ∧ (nxq P (nx P 0 false)).1 < q69.1 := hok66
        have := hl74.1.2.1; have := hl74.1.2.2.1
        refine r_aload_n hX dX10_reads_106 rfl ?_
        refine r_getIV hX dX10_reads_107 fl_X10_264 (hM.1 0 (9, 0) rfl) rfl (nI 0) hp73.2.2.1 ?_
        refine r_ifN_ne hX dX10_reads_110 (by decide) (fun c75 => absurd c75 (by decide)) (fun c75 => ?_)
        have hlx := lex_le (fun k hk => ((hp73).1.2.2 k hk).2) hl74.1
        refine r_aload_n hX dX10_reads_113 rfl ?_
        refine r_getIV hX dX10_reads_114 fl_X10_261 (hM.1 0 (9, 0) rfl) rfl (nI (mkN q69)) hp73.2.1.2.2.1 ?_
        refine r_ifN_eq hX dX10_reads_117 (by omega) (fun c76 => ?_) (fun c76 => ?_)
        · skip
          exact r_return hX hQ dX10_reads_124 ⟨Nat.le_of_ble_eq_true rfl, Nat.le_of_ble_eq_true rfl⟩ (PV.mk ⟨by rw [rdT_k hky, ← hd, hr67]; rw [rdE_y c76]; exact PS.rq hp73 (List.nil_append _) (Nat.zero_add _), (Ex.tr (Ex.tr (Ex.up (Ex.tr (Ex.up (Ex.up (Ex.up (Ex.up (Ex.up (Ex.up (Ex.up (Ex.rf σ) rfl) rfl) rfl) rfl) rfl) rfl) rfl) (pX_pY hx12)) rfl) (pX_pY hx59)) hx65)⟩)
        · skip
          refine r_aload_n hX dX10_reads_120 rfl ?_
          refine r_callVV (As := []) (rest := []) hX (c_X10_fails hM σ62 P key 0 0 q69 ([] ++ c70) (0 + n71) hp73 hl74.1) dX10_reads_121 cb_X10_291 (hM.1 0 (9, 0) rfl) rfl rfl ⟨by show _ ≤ 80; omega, by show _ ≤ 2400; omega⟩ ⟨Nat.le_of_ble_eq_true rfl, Nat.le_of_ble_eq_true rfl⟩ (Nat.le_of_ble_eq_true rfl) (fun σ77 h78 => ?_)
          obtain ⟨⟨h2679, h2780⟩, hx81⟩ := h78
          exact r_return hX hQ dX10_reads_124 ⟨Nat.le_of_ble_eq_true rfl, Nat.le_of_ble_eq_true rfl⟩ (PV.mk ⟨by rw [rdT_k hky, ← hd, hr67]; rw [rdE_n c76]; exact ⟨h2679, h2780⟩, (Ex.tr (Ex.tr (Ex.tr (Ex.up (Ex.tr (Ex.up (Ex.up (Ex.up (Ex.up (Ex.up (Ex.up (Ex.up (Ex.rf σ) rfl) rfl) rfl) rfl) rfl) rfl) rfl) (pX_pY hx12)) rfl) (pX_pY hx59)) hx65) hx81)⟩)
  · skip
    refine r_iconst hX (nI 0) dX10_reads_50 rfl ?_
    refine r_goto hX dX10_reads_51 ?_
    refine r_putI hX dX10_reads_83 fl_X10_282 (hM.1 0 (9, 0) rfl) rfl rfl rfl rfl ?_
    obtain ⟨key, hke⟩ : ∃ z, z = 0 := ⟨_, rfl⟩
    obtain ⟨d, hd⟩ : ∃ z, z = 70 := ⟨_, rfl⟩
    have hkey : key ≤ 2 := by omega
    have hp82 : PS (up σ9 0 30 (nI 0)) P key 0 0 (nx P 0 false) [] 0 := by rw [hke]; exact PS.start hT13 hl11 hg14 hg15 hg16 hg17 hg18 _
    have hky : kyO P (nx P 0 false) = some key := by rw [hke]; exact (by unfold kyO; rw [if_pos c19])
    refine r_aload_n hX dX10_reads_86 rfl ?_
    refine r_getIV hX dX10_reads_87 fl_X10_282 (hM.1 0 (9, 0) rfl) rfl (nI key) hp82.2.2.2.2.2.1 ?_
    refine r_ifN_ge hX dX10_reads_90 (by omega) ?_
    refine r_aload_n hX dX10_reads_98 rfl ?_
    refine r_callVV (As := []) (rest := []) hX (c_X10_next hM (up σ9 0 30 (nI 0)) P (hp82).1 (nx P 0 false).2.2.1 (wwB (nx P 0 false)) (hp82).2.1.1 (hp82).2.1.2.2.2.2.2 ((lok_first P)).2.2.1) dX10_reads_99 cb_X10_294 (hM.1 0 (9, 0) rfl) rfl rfl ⟨by show _ ≤ 80; omega, by show _ ≤ 2400; omega⟩ ⟨Nat.le_of_ble_eq_true rfl, Nat.le_of_ble_eq_true rfl⟩ (Nat.le_of_ble_eq_true rfl) (fun σ83 h84 => ?_)
    obtain ⟨hl85, hx86⟩ := h84
    have hp87 : PS σ83 P key 0 0 (nxq P (nx P 0 false)) ([]) 0 := PS.nx hp82 hx86 hl85
    have hlok88 := ((lok_first P)).nx
    refine r_aload_n hX dX10_reads_102 rfl ?_
    refine r_callVV (As := []) (rest := []) hX (by rw [hl, hD]; exact (c_par hM P key hkey d).1 0 0 (by decide) (by decide) (by rw [hd]; decide) σ83 (nxq P (nx P 0 false)) ([]) 0 hp87 hlok88.1 (by (try simp only [List.length_append, List.length_cons, List.length_nil]); omega)) dX10_reads_103 cb_X10_306 (hM.1 0 (9, 0) rfl) rfl rfl ⟨by show _ ≤ 80; omega, by show _ ≤ 2400; omega⟩ ⟨Nat.le_of_ble_eq_true rfl, Nat.le_of_ble_eq_true rfl⟩ (Nat.le_of_ble_eq_true rfl) (fun σ89 h90 => ?_)
    obtain ⟨hq91, hx92⟩ := h90
    have hok93 := prs_ok P key d 0 0 0 (nxq P (nx P 0 false)) hlok88.1
    rcases hr94 : prs P key d 0 0 0 (nxq P (nx P 0 false)) with f95 | ⟨q96, c97, n98⟩
    · skip
      rw [hr94] at hq91
      refine r_aload_n hX dX10_reads_106 rfl ?_
      refine r_getIV hX dX10_reads_107 fl_X10_264 (hM.1 0 (9, 0) rfl) rfl (nI 1) hq91.1 ?_
      refine r_ifN_ne hX dX10_reads_110 (by decide) (fun c99 => ?_) (fun c99 => absurd c99 (by decide))
      exact r_return hX hQ dX10_reads_124 ⟨Nat.le_of_ble_eq_true rfl, Nat.le_of_ble_eq_true rfl⟩ (PV.mk ⟨by rw [rdT_k hky, ← hd, hr94]; exact ⟨hq91.1, hq91.2⟩, (Ex.tr (Ex.tr (Ex.up (Ex.tr (Ex.up (Ex.up (Ex.up (Ex.up (Ex.up (Ex.up (Ex.up (Ex.rf σ) rfl) rfl) rfl) rfl) rfl) rfl) rfl) (pX_pY hx12)) rfl) (pX_pY hx86)) hx92)⟩)
    · skip
      rw [hr94] at hq91 hok93
      have hp100 : PS σ89 P key 0 0 q96 ([] ++ c97) (0 + n98) := hq91
      have hl101 : Lok P q96 ∧ (nxq P (nx P 0 false)).1 + c97.length ≤ q96.1 ∧ (nxq P (nx P 0 false)).1 < q96.1 := hok93
      have := hl101.1.2.1; have := hl101.1.2.2.1
      refine r_aload_n hX dX10_reads_106 rfl ?_
      refine r_getIV hX dX10_reads_107 fl_X10_264 (hM.1 0 (9, 0) rfl) rfl (nI 0) hp100.2.2.1 ?_
      refine r_ifN_ne hX dX10_reads_110 (by decide) (fun c102 => absurd c102 (by decide)) (fun c102 => ?_)
      have hlx := lex_le (fun k hk => ((hp100).1.2.2 k hk).2) hl101.1
      refine r_aload_n hX dX10_reads_113 rfl ?_
      refine r_getIV hX dX10_reads_114 fl_X10_261 (hM.1 0 (9, 0) rfl) rfl (nI (mkN q96)) hp100.2.1.2.2.1 ?_
      refine r_ifN_eq hX dX10_reads_117 (by omega) (fun c103 => ?_) (fun c103 => ?_)
      · skip
        exact r_return hX hQ dX10_reads_124 ⟨Nat.le_of_ble_eq_true rfl, Nat.le_of_ble_eq_true rfl⟩ (PV.mk ⟨by rw [rdT_k hky, ← hd, hr94]; rw [rdE_y c103]; exact PS.rq hp100 (List.nil_append _) (Nat.zero_add _), (Ex.tr (Ex.tr (Ex.up (Ex.tr (Ex.up (Ex.up (Ex.up (Ex.up (Ex.up (Ex.up (Ex.up (Ex.rf σ) rfl) rfl) rfl) rfl) rfl) rfl) rfl) (pX_pY hx12)) rfl) (pX_pY hx86)) hx92)⟩)
      · skip
        refine r_aload_n hX dX10_reads_120 rfl ?_
        refine r_callVV (As := []) (rest := []) hX (c_X10_fails hM σ89 P key 0 0 q96 ([] ++ c97) (0 + n98) hp100 hl101.1) dX10_reads_121 cb_X10_291 (hM.1 0 (9, 0) rfl) rfl rfl ⟨by show _ ≤ 80; omega, by show _ ≤ 2400; omega⟩ ⟨Nat.le_of_ble_eq_true rfl, Nat.le_of_ble_eq_true rfl⟩ (Nat.le_of_ble_eq_true rfl) (fun σ104 h105 => ?_)
        obtain ⟨⟨h26106, h27107⟩, hx108⟩ := h105
        exact r_return hX hQ dX10_reads_124 ⟨Nat.le_of_ble_eq_true rfl, Nat.le_of_ble_eq_true rfl⟩ (PV.mk ⟨by rw [rdT_k hky, ← hd, hr94]; rw [rdE_n c103]; exact ⟨h26106, h27107⟩, (Ex.tr (Ex.tr (Ex.tr (Ex.up (Ex.tr (Ex.up (Ex.up (Ex.up (Ex.up (Ex.up (Ex.up (Ex.up (Ex.rf σ) rfl) rfl) rfl) rfl) rfl) rfl) rfl) (pX_pY hx12)) rfl) (pX_pY hx86)) hx92) hx108)⟩)
