set_option maxHeartbeats 4000000 in
set_option maxRecDepth 100000 in
theorem c_X9_keep1 {l : Launch} {D : Ds} {L : La}  (hA : CAt L) (hWl : Wl L) (σ : Me) (A : Al) (h0 : R0 σ 200 A) (hW : RW σ 200 A) (hTx : RX' L σ 200 A) (hV : Va A) (hLT : LT L 200) (hI : L.2.2 100 8 = some 220) (hCi : RAt L 220) : Ct l yX9_keep cX9_keep 1 (some .int) { frames := 3, cells := 0, slots := 0, locals := 74 } D L σ [.ref (L.1 100)] (PNI (fun r L2 σ2 => r = nI (aW A) ∧ KpP L σ A L2 σ2)) := by
  refine Ct.of (by decide) (Nat.le_of_ble_eq_true rfl) ?_
  intro X hl hD hnl hX0 hQ
  have hX : Ok X cX9_keep RX9 "keep" { frames := 3, cells := 0, slots := 0, locals := 74 } (some .int) := hX0
  have hC := hA.2.2
  show At X L σ 0 0 [(0, .ref (L.1 100))] 0 []
  refine r_aload_n hX dX9_keep_0 rfl ?_
  refine r_getR hX dX9_keep_1 fl_X9_59 (hA.1 100 (8, 0) rfl) rfl hI ?_
  refine r_ifnonnull hX dX9_keep_4 ?_
  refine r_aload_n hX dX9_keep_18 rfl ?_
  refine r_getR hX dX9_keep_19 fl_X9_59 (hA.1 100 (8, 0) rfl) rfl hI ?_
  refine r_aload_n hX dX9_keep_22 rfl ?_
  refine r_getR hX dX9_keep_23 fl_X9_10 (hA.1 100 (8, 0) rfl) rfl (hA.2.1 100 0 200 rfl) ?_
  refine r_callVT (As := [.ref (L.1 (200 + 0))]) (rest := []) hX (c_X3_become 220 200 hCi hC (by decide) σ A h0 hW hTx hV hLT) dX9_keep_26 cb_X9_343 (hCi.1 0 (2, 0) rfl) rfl rfl ⟨Nat.le_of_ble_eq_true rfl, Nat.le_of_ble_eq_true rfl⟩ ⟨Nat.le_of_ble_eq_true rfl, Nat.le_of_ble_eq_true rfl⟩ (Nat.le_of_ble_eq_true rfl) (fun T3 σ1 h2 => ?_)
  obtain ⟨hRCb, hTa, hTb, hMo⟩ := h2
  have hBc : Bc L 220 200 T3 := ⟨hTa, hTb⟩
  refine r_aload_n hX dX9_keep_29 rfl ?_
  refine r_getR hX dX9_keep_30 fl_X9_10 (hA.1 100 (8, 0) rfl) rfl ((hTb (100) 0 (by decide)).trans (hA.2.1 100 0 200 rfl)) ?_
  refine r_getR hX dX9_keep_33 fl_X9_86 (hC.1 0 (2, 0) rfl) rfl ((hTb (200 + 0) 5 (by decide)).trans (hC.2.1 0 5 4 rfl)) ?_
  refine r_getIV hX dX9_keep_36 fl_X9_176 (hC.1 4 (7, 0) rfl) rfl (nI (aW A)) ((hMo _ _ (by decide)).trans hW.1) ?_
  exact r_ireturn hX hQ dX9_keep_39 ⟨Nat.le_of_ble_eq_true rfl, Nat.le_of_ble_eq_true rfl⟩ (PNI.mk ⟨rfl, hBc.cat (by decide) hA, hBc.wl hWl hA.2.2, hBc.lx.mono (fun d hd => by have hd : d = 220 + 5 := hd; unfold pRm; omega), rfl, (hTb 100 8 (by decide)).trans hI, hTb 100 9 (by decide), hBc.rat (Or.inl rfl) hCi, hRCb, hBc.lt hLT, fun d i hd => hMo d i (by unfold pRm at hd; omega)⟩)

set_option maxHeartbeats 4000000 in
set_option maxRecDepth 100000 in
theorem c_X9_keep0 {l : Launch} {D : Ds} {L : La}  (hN : NL D) (hAO : AO D) (hA : CAt L) (hWl : Wl L) (σ : Me) (A : Al) (h0 : R0 σ 200 A) (hW : RW σ 200 A) (hTx : RX' L σ 200 A) (hV : Va A) (hLT : LT L 200) (hI : L.2.2 100 8 = none) (hfr : ∀ i, i < 14 → L.2.1 (220 + i) = none) : Ct l yX9_keep cX9_keep 1 (some .int) { frames := 3, cells := 14, slots := 275, locals := 74 } D L σ [.ref (L.1 100)] (PNI (fun r L2 σ2 => r = nI (aW A) ∧ KpP L σ A L2 σ2)) := by
  refine Ct.of (by decide) (Nat.le_of_ble_eq_true rfl) ?_
  intro X hl hD hnl hX0 hQ
  have hX : Ok X cX9_keep RX9 "keep" { frames := 3, cells := 14, slots := 275, locals := 74 } (some .int) := hX0
  have hC := hA.2.2
  have hNx : NL (xD X) := by rw [hD]; exact hN
  have hAO2 : AO (xD X) := by rw [hD]; exact hAO
  show At X L σ 0 0 [(0, .ref (L.1 100))] 0 []
  refine r_aload_n hX dX9_keep_0 rfl ?_
  refine r_getN hX dX9_keep_1 fl_X9_59 (hA.1 100 (8, 0) rfl) rfl hI ?_
  refine r_ifnonnullN hX dX9_keep_4 ?_
  refine r_aload_n hX dX9_keep_7 rfl ?_
  refine r_new hX (220 + 0) (fun L' => [(0, .ref (L'.1 100))]) (fun L' => [.ref (L'.1 100)]) dX9_keep_8 nb_X9_7 (hfr 0 (by decide)) hWl ⟨Nat.le_of_ble_eq_true rfl, Nat.le_of_ble_eq_true rfl⟩ (fun L' h => ⟨(by have e0 : L'.1 100 = L.1 100 := (h.1 _ (by omega)).1; rw [e0]), (by have e0 : L'.1 100 = L.1 100 := (h.1 _ (by omega)).1; rw [e0])⟩) (fun L1 hNw2 => ?_)
  have wl4 : Wl L1 := Wl.nw hWl (hfr 0 (by decide)) hNw2
  have sh5 : L1.2.1 (220 + 0) = some (2, 0) := hNw2.2.1
  refine r_dup hX dX9_keep_11 rfl ?_
  have hAn : CAt L1 := hA.nw hNw2 rfl (by decide)
  refine r_callIN (As := []) (rest := [.ref (L1.1 (220 + 0)), .ref (L1.1 100)]) hX (hN (xs X) (by rw [← hD]; exact hX.2.2.2.2.2.1.2.2.1) _ (List.mem_of_getElem? (i := 0) rfl)) (c_X3_init hNx hAO2 220 (by decide) sh5 (fun i h1 h2 => (hNw2.1 _ (by omega)).2.1.trans (hfr i (by omega))) wl4 (zr σ (220 + 0))) dX9_keep_12 cn_X3_init rfl rfl ⟨Nat.le_of_ble_eq_true rfl, Nat.le_of_ble_eq_true rfl⟩ ⟨Nat.le_of_ble_eq_true rfl, Nat.le_of_ble_eq_true rfl⟩ (Nat.le_of_ble_eq_true rfl) (fun v9 L6 σ7 h8 => ?_)
  obtain ⟨rfl, h8⟩ := h8
  have hRn := h8
  have hAm : CAt L6 := hAn.room hRn (by decide)
  have hMk : ∀ d i, ¬ pRm 220 d → σ7 d i = σ d i := fun d i hd => (hRn.2.2.2.2.2.2.2 d i hd).trans (zr_n (by unfold pRm at hd; omega))
  refine At.to (ls' := [(0, .ref (L6.1 100))]) (st' := [.ref (L6.1 (220 + 0)), .ref (L6.1 100)]) ?_ (by rw [(show L6.1 (100) = L1.1 (100) from (hRn.1 (100) (by unfold pRm; decide)).1)] <;> rfl) (by rw [(show L6.1 (100) = L1.1 (100) from (hRn.1 (100) (by unfold pRm; decide)).1), (show L6.1 (220 + 0) = L1.1 (220 + 0) from hRn.2.1)] <;> rfl) rfl
  refine r_putR hX (some (220 + 0)) dX9_keep_15 fl_X9_59 (hAm.1 100 (8, 0) rfl) rfl (Or.inl rfl) ?_
  have hAu : CAt (ut L6 (100) 8 (some (220 + 0))) := hAm.ut (by decide) rfl
  have hCiu : RAt (ut L6 (100) 8 (some (220 + 0))) 220 := hRn.2.2.1.ut (by decide)
  have hLXu : LX (fun d => d = 100 ∨ pRm 220 d) L (ut L6 (100) 8 (some (220 + 0))) := (LX.ut (LX.tr (LX.nw (LX.rf _ L) hNw2 (by first | exact Or.inl rfl | exact Or.inr ⟨by decide, by decide⟩)) (LX.mono hRn.1 (fun d hd => Or.inr hd))) (by first | exact Or.inl rfl | exact Or.inr ⟨by decide, by decide⟩))
  have h0n : R0 σ7 200 A := h0.lay (fun c i h1 h2 => hMk c i (by unfold pRm; omega))
  have hWn : RW σ7 200 A := hW.lay (fun c i h1 h2 => hMk c i (by unfold pRm; omega))
  have hTxn : RX' (ut L6 (100) 8 (some (220 + 0))) σ7 200 A := (hTx.kept (fun c i h1 h2 => hMk c i (by unfold pRm; omega))).lx hLXu (fun d y hd _ e => by unfold pRm at e; omega) (fun j _ => (hLXu 205 (by unfold pRm; omega)).2.2 j)
  have hLTn : LT (ut L6 (100) 8 (some (220 + 0))) 200 := hLT.rm hA hLXu hfr (by decide)
  refine r_aload_n hX dX9_keep_18 rfl ?_
  refine r_getR hX dX9_keep_19 fl_X9_59 (hAu.1 100 (8, 0) rfl) rfl ut_s ?_
  refine r_aload_n hX dX9_keep_22 rfl ?_
  refine r_getR hX dX9_keep_23 fl_X9_10 (hAu.1 100 (8, 0) rfl) rfl (hAu.2.1 100 0 200 rfl) ?_
  refine r_callVT (As := [.ref (L6.1 (200 + 0))]) (rest := []) hX (c_X3_become 220 200 hCiu hAu.2.2 (by decide) σ7 A h0n hWn hTxn hV hLTn) dX9_keep_26 cb_X9_343 (hCiu.1 0 (2, 0) rfl) rfl rfl ⟨Nat.le_of_ble_eq_true rfl, Nat.le_of_ble_eq_true rfl⟩ ⟨Nat.le_of_ble_eq_true rfl, Nat.le_of_ble_eq_true rfl⟩ (Nat.le_of_ble_eq_true rfl) (fun T12 σ10 h11 => ?_)
  obtain ⟨hRCb, hTa, hTb, hMo⟩ := h11
  have hBc : Bc (ut L6 (100) 8 (some (220 + 0))) 220 200 T12 := ⟨hTa, hTb⟩
  refine r_aload_n hX dX9_keep_29 rfl ?_
  refine r_getR hX dX9_keep_30 fl_X9_10 (hAu.1 100 (8, 0) rfl) rfl ((hTb (100) 0 (by decide)).trans (hAu.2.1 100 0 200 rfl)) ?_
  refine r_getR hX dX9_keep_33 fl_X9_86 (hAu.2.2.1 0 (2, 0) rfl) rfl ((hTb (200 + 0) 5 (by decide)).trans (hAu.2.2.2.1 0 5 4 rfl)) ?_
  refine r_getIV hX dX9_keep_36 fl_X9_176 (hAu.2.2.1 4 (7, 0) rfl) rfl (nI (aW A)) ((hMo _ _ (by decide)).trans (hWn.1)) ?_
  exact r_ireturn hX hQ dX9_keep_39 ⟨Nat.le_of_ble_eq_true rfl, Nat.le_of_ble_eq_true rfl⟩ (PNI.mk ⟨rfl, hBc.cat (by decide) hAu, hBc.wl (Wl.ut hRn.2.2.2.1 (fun t ht => by cases ht; exact ⟨_, (hRn.2.2.1.1 0 (2, 0) rfl)⟩)) hAu.2.2, LX.tr hLXu (hBc.lx.mono (fun d hd => by have hd : d = 220 + 5 := hd; unfold pRm; omega)), (hRn.1 100 (by unfold pRm; decide)).1.trans (hNw2.1 100 (by decide)).1, (hTb 100 8 (by decide)).trans ut_s, (hTb 100 9 (by decide)).trans ((ut_n (by decide)).trans (((hRn.1 100 (by unfold pRm; decide)).2.2 9).trans ((hNw2.1 100 (by decide)).2.2 9))), hBc.rat (Or.inl rfl) hCiu, hRCb, hBc.lt hLTn, fun d i hd => (hMo d i (by unfold pRm at hd; omega)).trans (hMk d i hd)⟩)
