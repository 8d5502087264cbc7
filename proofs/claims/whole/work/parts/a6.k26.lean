set_option maxHeartbeats 4000000 in
set_option maxRecDepth 100000 in
theorem c_X3_init {l : Launch} {D : Ds} {L : La}  (hN : NL D) (hAO : AO D) (b : Nat) (hb : b % 20 = 0 ∧ 200 ≤ b ∧ b < 260) (h0 : L.2.1 (b + 0) = some (2, 0)) (hf : ∀ i, 1 ≤ i → i ≤ 13 → L.2.1 (b + i) = none) (hW : Wl L) (σ : Me) : Ct l yX3_init cX3_init 1 none { frames := 2, cells := 13, slots := 263, locals := 40 } D L σ [.ref (L.1 (b + 0))] (PN (NwR L σ b)) := by
  refine Ct.of (by decide) (Nat.le_of_ble_eq_true rfl) ?_
  intro X hl hD hnl hX0 hQ
  have hX : Ok X cX3_init RX3 "<init>" { frames := 2, cells := 13, slots := 263, locals := 40 } none := hX0
  show At X L σ 0 0 [(0, .ref (L.1 (b + 0)))] 0 []
  refine r_aload_n hX dX3_init_0 rfl ?_
  refine r_oinit hX dX3_init_1 ⟨(inT_1 (List.mem_of_getElem? (i := 34) rfl) rfl), w_oi.1, w_oi.2⟩ ⟨Nat.le_of_ble_eq_true rfl, Nat.le_of_ble_eq_true rfl⟩ (Nat.le_of_ble_eq_true rfl) ?_
  refine r_aload_n hX dX3_init_4 rfl ?_
  refine r_iconst hX (nI 0) dX3_init_5 rfl ?_
  refine r_putI hX dX3_init_6 fl_X3_9 h0 rfl rfl rfl rfl ?_
  refine r_aload_n hX dX3_init_9 rfl ?_
  refine r_bipush hX (nI 6) dX3_init_10 rfl ?_
  refine r_newa hX (b + 1) 10 (fun L' => [(0, .ref (L'.1 (b + 0)))]) (fun L' => [.ref (L'.1 (b + 0))]) dX3_init_12 (inT_1 (List.mem_of_getElem? (i := 72) rfl) rfl) ⟨by decide, by decide, rfl, rfl, rfl⟩ ⟨by decide, by decide⟩ (hf 1 (by decide) (by decide)) hW ⟨Nat.le_of_ble_eq_true rfl, Nat.le_of_ble_eq_true rfl⟩ (fun L' h => ⟨(by have e0 : L'.1 (b + 0) = L.1 (b + 0) := (h.1 _ (by omega)).1; rw [e0]), (by have e0 : L'.1 (b + 0) = L.1 (b + 0) := (h.1 _ (by omega)).1; rw [e0])⟩) (fun L1 hNw2 => ?_)
  have sh3 : L1.2.1 (b + 0) = some (2, 0) := (hNw2.1 (b + 0) (by omega)).2.1.trans h0
  have fr4 : L1.2.1 (b + 2) = none := (hNw2.1 (b + 2) (by omega)).2.1.trans (hf 2 (by decide) (by decide))
  have fr5 : L1.2.1 (b + 3) = none := (hNw2.1 (b + 3) (by omega)).2.1.trans (hf 3 (by decide) (by decide))
  have fr6 : L1.2.1 (b + 4) = none := (hNw2.1 (b + 4) (by omega)).2.1.trans (hf 4 (by decide) (by decide))
  have fr7 : L1.2.1 (b + 5) = none := (hNw2.1 (b + 5) (by omega)).2.1.trans (hf 5 (by decide) (by decide))
  have fr8 : L1.2.1 (b + 6) = none := (hNw2.1 (b + 6) (by omega)).2.1.trans (hf 6 (by decide) (by decide))
  have fr9 : L1.2.1 (b + 7) = none := (hNw2.1 (b + 7) (by omega)).2.1.trans (hf 7 (by decide) (by decide))
  have fr10 : L1.2.1 (b + 8) = none := (hNw2.1 (b + 8) (by omega)).2.1.trans (hf 8 (by decide) (by decide))
  have fr11 : L1.2.1 (b + 9) = none := (hNw2.1 (b + 9) (by omega)).2.1.trans (hf 9 (by decide) (by decide))
  have fr12 : L1.2.1 (b + 10) = none := (hNw2.1 (b + 10) (by omega)).2.1.trans (hf 10 (by decide) (by decide))
  have fr13 : L1.2.1 (b + 11) = none := (hNw2.1 (b + 11) (by omega)).2.1.trans (hf 11 (by decide) (by decide))
  have fr14 : L1.2.1 (b + 12) = none := (hNw2.1 (b + 12) (by omega)).2.1.trans (hf 12 (by decide) (by decide))
  have fr15 : L1.2.1 (b + 13) = none := (hNw2.1 (b + 13) (by omega)).2.1.trans (hf 13 (by decide) (by decide))
  have ad17 : L1.1 (b + 0) = L.1 (b + 0) := (hNw2.1 (b + 0) (by omega)).1.trans rfl
  have wl18 : Wl L1 := Wl.nw hW (hf 1 (by decide) (by decide)) hNw2
  have sh19 : L1.2.1 (b + 1) = some (10, 6) := hNw2.2.1
  refine r_putR hX (some (b + 1)) dX3_init_14 fl_X3_15 sh3 rfl (Or.inr ⟨rfl, rfl⟩) ?_
  refine r_aload_n hX dX3_init_17 rfl ?_
  refine r_bipush hX (nI 6) dX3_init_18 rfl ?_
  refine r_newa hX (b + 2) 10 (fun L' => [(0, .ref (L'.1 (b + 0)))]) (fun L' => [.ref (L'.1 (b + 0))]) dX3_init_20 (inT_1 (List.mem_of_getElem? (i := 72) rfl) rfl) ⟨by decide, by decide, rfl, rfl, rfl⟩ ⟨by decide, by decide⟩ fr4 (Wl.ut wl18 (fun t ht => by cases ht; exact ⟨_, sh19⟩)) ⟨Nat.le_of_ble_eq_true rfl, Nat.le_of_ble_eq_true rfl⟩ (fun L' h => ⟨(by have e0 : L'.1 (b + 0) = L1.1 (b + 0) := (h.1 _ (by omega)).1; rw [e0]), (by have e0 : L'.1 (b + 0) = L1.1 (b + 0) := (h.1 _ (by omega)).1; rw [e0])⟩) (fun L20 hNw21 => ?_)
  have sh22 : L20.2.1 (b + 0) = some (2, 0) := (hNw21.1 (b + 0) (by omega)).2.1.trans sh3
  have sh23 : L20.2.1 (b + 1) = some (10, 6) := (hNw21.1 (b + 1) (by omega)).2.1.trans sh19
  have tg24 : L20.2.2 (b + 0) 1 = some (b + 1) := ((hNw21.1 (b + 0) (by omega)).2.2 1).trans ut_s
  have fr25 : L20.2.1 (b + 3) = none := (hNw21.1 (b + 3) (by omega)).2.1.trans fr5
  have fr26 : L20.2.1 (b + 4) = none := (hNw21.1 (b + 4) (by omega)).2.1.trans fr6
  have fr27 : L20.2.1 (b + 5) = none := (hNw21.1 (b + 5) (by omega)).2.1.trans fr7
  have fr28 : L20.2.1 (b + 6) = none := (hNw21.1 (b + 6) (by omega)).2.1.trans fr8
  have fr29 : L20.2.1 (b + 7) = none := (hNw21.1 (b + 7) (by omega)).2.1.trans fr9
  have fr30 : L20.2.1 (b + 8) = none := (hNw21.1 (b + 8) (by omega)).2.1.trans fr10
  have fr31 : L20.2.1 (b + 9) = none := (hNw21.1 (b + 9) (by omega)).2.1.trans fr11
  have fr32 : L20.2.1 (b + 10) = none := (hNw21.1 (b + 10) (by omega)).2.1.trans fr12
  have fr33 : L20.2.1 (b + 11) = none := (hNw21.1 (b + 11) (by omega)).2.1.trans fr13
  have fr34 : L20.2.1 (b + 12) = none := (hNw21.1 (b + 12) (by omega)).2.1.trans fr14
  have fr35 : L20.2.1 (b + 13) = none := (hNw21.1 (b + 13) (by omega)).2.1.trans fr15
  have ad37 : L20.1 (b + 0) = L.1 (b + 0) := (hNw21.1 (b + 0) (by omega)).1.trans ad17
  have wl38 : Wl L20 := Wl.nw (Wl.ut wl18 (fun t ht => by cases ht; exact ⟨_, sh19⟩)) fr4 hNw21
  have sh39 : L20.2.1 (b + 2) = some (10, 6) := hNw21.2.1
  refine r_putR hX (some (b + 2)) dX3_init_22 fl_X3_19 sh22 rfl (Or.inr ⟨rfl, rfl⟩) ?_
  refine r_aload_n hX dX3_init_25 rfl ?_
  refine r_iconst hX (nI 0) dX3_init_26 rfl ?_
  refine r_putI hX dX3_init_27 fl_X3_22 sh22 rfl rfl rfl rfl ?_
  refine r_aload_n hX dX3_init_30 rfl ?_
  refine r_bipush hX (nI 12) dX3_init_31 rfl ?_
  refine r_newa hX (b + 3) 10 (fun L' => [(0, .ref (L'.1 (b + 0)))]) (fun L' => [.ref (L'.1 (b + 0))]) dX3_init_33 (inT_1 (List.mem_of_getElem? (i := 72) rfl) rfl) ⟨by decide, by decide, rfl, rfl, rfl⟩ ⟨by decide, by decide⟩ fr25 (Wl.ut wl38 (fun t ht => by cases ht; exact ⟨_, sh39⟩)) ⟨Nat.le_of_ble_eq_true rfl, Nat.le_of_ble_eq_true rfl⟩ (fun L' h => ⟨(by have e0 : L'.1 (b + 0) = L20.1 (b + 0) := (h.1 _ (by omega)).1; rw [e0]), (by have e0 : L'.1 (b + 0) = L20.1 (b + 0) := (h.1 _ (by omega)).1; rw [e0])⟩) (fun L40 hNw41 => ?_)
  have sh42 : L40.2.1 (b + 0) = some (2, 0) := (hNw41.1 (b + 0) (by omega)).2.1.trans sh22
  have sh43 : L40.2.1 (b + 1) = some (10, 6) := (hNw41.1 (b + 1) (by omega)).2.1.trans sh23
  have sh44 : L40.2.1 (b + 2) = some (10, 6) := (hNw41.1 (b + 2) (by omega)).2.1.trans sh39
  have tg45 : L40.2.2 (b + 0) 1 = some (b + 1) := ((hNw41.1 (b + 0) (by omega)).2.2 1).trans ((ut_n (by omega)).trans tg24)
  have tg46 : L40.2.2 (b + 0) 2 = some (b + 2) := ((hNw41.1 (b + 0) (by omega)).2.2 2).trans ut_s
  have fr47 : L40.2.1 (b + 4) = none := (hNw41.1 (b + 4) (by omega)).2.1.trans fr26
  have fr48 : L40.2.1 (b + 5) = none := (hNw41.1 (b + 5) (by omega)).2.1.trans fr27
  have fr49 : L40.2.1 (b + 6) = none := (hNw41.1 (b + 6) (by omega)).2.1.trans fr28
  have fr50 : L40.2.1 (b + 7) = none := (hNw41.1 (b + 7) (by omega)).2.1.trans fr29
  have fr51 : L40.2.1 (b + 8) = none := (hNw41.1 (b + 8) (by omega)).2.1.trans fr30
  have fr52 : L40.2.1 (b + 9) = none := (hNw41.1 (b + 9) (by omega)).2.1.trans fr31
  have fr53 : L40.2.1 (b + 10) = none := (hNw41.1 (b + 10) (by omega)).2.1.trans fr32
  have fr54 : L40.2.1 (b + 11) = none := (hNw41.1 (b + 11) (by omega)).2.1.trans fr33
  have fr55 : L40.2.1 (b + 12) = none := (hNw41.1 (b + 12) (by omega)).2.1.trans fr34
  have fr56 : L40.2.1 (b + 13) = none := (hNw41.1 (b + 13) (by omega)).2.1.trans fr35
  have ad58 : L40.1 (b + 0) = L.1 (b + 0) := (hNw41.1 (b + 0) (by omega)).1.trans ad37
  have wl59 : Wl L40 := Wl.nw (Wl.ut wl38 (fun t ht => by cases ht; exact ⟨_, sh39⟩)) fr25 hNw41
  have sh60 : L40.2.1 (b + 3) = some (10, 12) := hNw41.2.1
  refine r_putR hX (some (b + 3)) dX3_init_35 fl_X3_25 sh42 rfl (Or.inr ⟨rfl, rfl⟩) ?_
  refine r_aload_n hX dX3_init_38 rfl ?_
  refine r_new hX (b + 4) (fun L' => [(0, .ref (L'.1 (b + 0)))]) (fun L' => [.ref (L'.1 (b + 0))]) dX3_init_39 nb_X3_28 fr47 (Wl.ut wl59 (fun t ht => by cases ht; exact ⟨_, sh60⟩)) ⟨Nat.le_of_ble_eq_true rfl, Nat.le_of_ble_eq_true rfl⟩ (fun L' h => ⟨(by have e0 : L'.1 (b + 0) = L40.1 (b + 0) := (h.1 _ (by omega)).1; rw [e0]), (by have e0 : L'.1 (b + 0) = L40.1 (b + 0) := (h.1 _ (by omega)).1; rw [e0])⟩) (fun L61 hNw62 => ?_)
  have sh63 : L61.2.1 (b + 0) = some (2, 0) := (hNw62.1 (b + 0) (by omega)).2.1.trans sh42
  have sh64 : L61.2.1 (b + 1) = some (10, 6) := (hNw62.1 (b + 1) (by omega)).2.1.trans sh43
  have sh65 : L61.2.1 (b + 2) = some (10, 6) := (hNw62.1 (b + 2) (by omega)).2.1.trans sh44
  have sh66 : L61.2.1 (b + 3) = some (10, 12) := (hNw62.1 (b + 3) (by omega)).2.1.trans sh60
  have tg67 : L61.2.2 (b + 0) 1 = some (b + 1) := ((hNw62.1 (b + 0) (by omega)).2.2 1).trans ((ut_n (by omega)).trans tg45)
  have tg68 : L61.2.2 (b + 0) 2 = some (b + 2) := ((hNw62.1 (b + 0) (by omega)).2.2 2).trans ((ut_n (by omega)).trans tg46)
  have tg69 : L61.2.2 (b + 0) 4 = some (b + 3) := ((hNw62.1 (b + 0) (by omega)).2.2 4).trans ut_s
  have fr70 : L61.2.1 (b + 5) = none := (hNw62.1 (b + 5) (by omega)).2.1.trans fr48
  have fr71 : L61.2.1 (b + 6) = none := (hNw62.1 (b + 6) (by omega)).2.1.trans fr49
  have fr72 : L61.2.1 (b + 7) = none := (hNw62.1 (b + 7) (by omega)).2.1.trans fr50
  have fr73 : L61.2.1 (b + 8) = none := (hNw62.1 (b + 8) (by omega)).2.1.trans fr51
  have fr74 : L61.2.1 (b + 9) = none := (hNw62.1 (b + 9) (by omega)).2.1.trans fr52
  have fr75 : L61.2.1 (b + 10) = none := (hNw62.1 (b + 10) (by omega)).2.1.trans fr53
  have fr76 : L61.2.1 (b + 11) = none := (hNw62.1 (b + 11) (by omega)).2.1.trans fr54
  have fr77 : L61.2.1 (b + 12) = none := (hNw62.1 (b + 12) (by omega)).2.1.trans fr55
  have fr78 : L61.2.1 (b + 13) = none := (hNw62.1 (b + 13) (by omega)).2.1.trans fr56
  have ad80 : L61.1 (b + 0) = L.1 (b + 0) := (hNw62.1 (b + 0) (by omega)).1.trans ad58
  have wl81 : Wl L61 := Wl.nw (Wl.ut wl59 (fun t ht => by cases ht; exact ⟨_, sh60⟩)) fr47 hNw62
  have sh82 : L61.2.1 (b + 4) = some (7, 0) := hNw62.2.1
  refine r_dup hX dX3_init_42 rfl ?_
  refine r_callIN (As := []) (rest := [.ref (L61.1 (b + 4)), .ref (L61.1 (b + 0))]) hX (hN (xs X) (by rw [← hD]; exact hX.2.2.2.2.2.1.2.2.1) _ (List.mem_of_getElem? (i := 5) rfl)) (c_X8_init b sh82 (fun i h1 h2 => by rcases (show i = 9 ∨ i = 10 ∨ i = 11 ∨ i = 12 ∨ i = 13 from by omega) with rfl | rfl | rfl | rfl | rfl <;> assumption) wl81 (zr (zr (up (zr (zr (up σ (b + 0) 0 (nI 0)) (b + 1)) (b + 2)) (b + 0) 3 (nI 0)) (b + 3)) (b + 4))) dX3_init_43 cn_X8_init rfl rfl ⟨Nat.le_of_ble_eq_true rfl, Nat.le_of_ble_eq_true rfl⟩ ⟨Nat.le_of_ble_eq_true rfl, Nat.le_of_ble_eq_true rfl⟩ (Nat.le_of_ble_eq_true rfl) (fun v86 L83 σ84 h85 => ?_)
  obtain ⟨rfl, h85⟩ := h85
  obtain ⟨n87, n88, n89, ⟨n900, n901, n902, n903, n904⟩, ⟨n910, n911, n912, n913, n914⟩, n92, n93, n94⟩ := h85
  have sh95 : L83.2.1 (b + 0) = some (2, 0) := (n87 (b + 0) (by unfold pWd; omega)).2.1.trans sh63
  have sh96 : L83.2.1 (b + 1) = some (10, 6) := (n87 (b + 1) (by unfold pWd; omega)).2.1.trans sh64
  have sh97 : L83.2.1 (b + 2) = some (10, 6) := (n87 (b + 2) (by unfold pWd; omega)).2.1.trans sh65
  have sh98 : L83.2.1 (b + 3) = some (10, 12) := (n87 (b + 3) (by unfold pWd; omega)).2.1.trans sh66
  have tg99 : L83.2.2 (b + 0) 1 = some (b + 1) := ((n87 (b + 0) (by unfold pWd; omega)).2.2 1).trans tg67
  have tg100 : L83.2.2 (b + 0) 2 = some (b + 2) := ((n87 (b + 0) (by unfold pWd; omega)).2.2 2).trans tg68
  have tg101 : L83.2.2 (b + 0) 4 = some (b + 3) := ((n87 (b + 0) (by unfold pWd; omega)).2.2 4).trans tg69
  have fr102 : L83.2.1 (b + 5) = none := (n87 (b + 5) (by unfold pWd; omega)).2.1.trans fr70
  have fr103 : L83.2.1 (b + 6) = none := (n87 (b + 6) (by unfold pWd; omega)).2.1.trans fr71
  have fr104 : L83.2.1 (b + 7) = none := (n87 (b + 7) (by unfold pWd; omega)).2.1.trans fr72
  have fr105 : L83.2.1 (b + 8) = none := (n87 (b + 8) (by unfold pWd; omega)).2.1.trans fr73
  have ad107 : L83.1 (b + 0) = L.1 (b + 0) := (n87 (b + 0) (by unfold pWd; omega)).1.trans ad80
  refine At.to (ls' := [(0, .ref (L83.1 (b + 0)))]) (st' := [.ref (L83.1 (b + 4)), .ref (L83.1 (b + 0))]) ?_ (by rw [(show L83.1 (b + 0) = L61.1 (b + 0) from (n87 (b + 0) (by unfold pWd; omega)).1)] <;> rfl) (by rw [(show L83.1 (b + 0) = L61.1 (b + 0) from (n87 (b + 0) (by unfold pWd; omega)).1), n88] <;> rfl) rfl
  refine r_putR hX (some (b + 4)) dX3_init_46 fl_X3_31 sh95 rfl (Or.inr ⟨rfl, rfl⟩) ?_
  refine r_aload_n hX dX3_init_49 rfl ?_
  refine r_iconst hX (nI 0) dX3_init_50 rfl ?_
  refine r_putI hX dX3_init_51 fl_X3_35 sh95 rfl rfl rfl rfl ?_
  refine r_aload_n hX dX3_init_54 rfl ?_
  refine r_bipush hX (nI 14) dX3_init_55 rfl ?_
  refine r_anew hX (b + 5) 15 (fun L' => [(0, .ref (L'.1 (b + 0)))]) (fun L' => [.ref (L'.1 (b + 0))]) dX3_init_57 (inT_1 (List.mem_of_getElem? (i := 73) rfl) rfl) (hAO (xs X) (by rw [← hD]; exact hX.2.2.2.2.2.1.2.2.1)).2.2 ⟨by decide, by decide, rfl⟩ ⟨by decide, by decide⟩ fr102 (Wl.ut n92 (fun t ht => by cases ht; exact ⟨_, n89⟩)) ⟨Nat.le_of_ble_eq_true rfl, Nat.le_of_ble_eq_true rfl⟩ (fun L' h => ⟨(by have e0 : L'.1 (b + 0) = L83.1 (b + 0) := (h.1 _ (by omega)).1; rw [e0]), (by have e0 : L'.1 (b + 0) = L83.1 (b + 0) := (h.1 _ (by omega)).1; rw [e0])⟩) (fun L108 hNw109 => ?_)
  have sh110 : L108.2.1 (b + 0) = some (2, 0) := (hNw109.1 (b + 0) (by omega)).2.1.trans sh95
  have sh111 : L108.2.1 (b + 1) = some (10, 6) := (hNw109.1 (b + 1) (by omega)).2.1.trans sh96
  have sh112 : L108.2.1 (b + 2) = some (10, 6) := (hNw109.1 (b + 2) (by omega)).2.1.trans sh97
  have sh113 : L108.2.1 (b + 3) = some (10, 12) := (hNw109.1 (b + 3) (by omega)).2.1.trans sh98
  have sh114 : L108.2.1 (b + 4) = some (7, 0) := (hNw109.1 (b + 4) (by omega)).2.1.trans n89
  have sh115 : L108.2.1 (b + 9) = some (10, 24) := (hNw109.1 (b + 9) (by omega)).2.1.trans n900
  have sh116 : L108.2.1 (b + 10) = some (10, 24) := (hNw109.1 (b + 10) (by omega)).2.1.trans n901
  have sh117 : L108.2.1 (b + 11) = some (10, 24) := (hNw109.1 (b + 11) (by omega)).2.1.trans n902
  have sh118 : L108.2.1 (b + 12) = some (10, 24) := (hNw109.1 (b + 12) (by omega)).2.1.trans n903
  have sh119 : L108.2.1 (b + 13) = some (10, 24) := (hNw109.1 (b + 13) (by omega)).2.1.trans n904
  have tg120 : L108.2.2 (b + 0) 1 = some (b + 1) := ((hNw109.1 (b + 0) (by omega)).2.2 1).trans ((ut_n (by omega)).trans tg99)
  have tg121 : L108.2.2 (b + 0) 2 = some (b + 2) := ((hNw109.1 (b + 0) (by omega)).2.2 2).trans ((ut_n (by omega)).trans tg100)
  have tg122 : L108.2.2 (b + 0) 4 = some (b + 3) := ((hNw109.1 (b + 0) (by omega)).2.2 4).trans ((ut_n (by omega)).trans tg101)
  have tg123 : L108.2.2 (b + 4) 1 = some (b + 9) := ((hNw109.1 (b + 4) (by omega)).2.2 1).trans ((ut_n (by omega)).trans n910)
  have tg124 : L108.2.2 (b + 4) 2 = some (b + 10) := ((hNw109.1 (b + 4) (by omega)).2.2 2).trans ((ut_n (by omega)).trans n911)
  have tg125 : L108.2.2 (b + 4) 3 = some (b + 11) := ((hNw109.1 (b + 4) (by omega)).2.2 3).trans ((ut_n (by omega)).trans n912)
  have tg126 : L108.2.2 (b + 4) 4 = some (b + 12) := ((hNw109.1 (b + 4) (by omega)).2.2 4).trans ((ut_n (by omega)).trans n913)
  have tg127 : L108.2.2 (b + 4) 5 = some (b + 13) := ((hNw109.1 (b + 4) (by omega)).2.2 5).trans ((ut_n (by omega)).trans n914)
  have tg128 : L108.2.2 (b + 0) 5 = some (b + 4) := ((hNw109.1 (b + 0) (by omega)).2.2 5).trans ut_s
  have fr129 : L108.2.1 (b + 6) = none := (hNw109.1 (b + 6) (by omega)).2.1.trans fr103
  have fr130 : L108.2.1 (b + 7) = none := (hNw109.1 (b + 7) (by omega)).2.1.trans fr104
  have fr131 : L108.2.1 (b + 8) = none := (hNw109.1 (b + 8) (by omega)).2.1.trans fr105
  have ad133 : L108.1 (b + 0) = L.1 (b + 0) := (hNw109.1 (b + 0) (by omega)).1.trans ad107
  have wl134 : Wl L108 := Wl.nw (Wl.ut n92 (fun t ht => by cases ht; exact ⟨_, n89⟩)) fr102 hNw109
  have sh135 : L108.2.1 (b + 5) = some (15, 14) := hNw109.2.1
  refine r_putR hX (some (b + 5)) dX3_init_60 fl_X3_40 sh110 rfl (Or.inr ⟨rfl, rfl⟩) ?_
  refine r_aload_n hX dX3_init_63 rfl ?_
  refine r_iconst hX (nI 3) dX3_init_64 rfl ?_
  refine r_newa hX (b + 6) 10 (fun L' => [(0, .ref (L'.1 (b + 0)))]) (fun L' => [.ref (L'.1 (b + 0))]) dX3_init_65 (inT_1 (List.mem_of_getElem? (i := 72) rfl) rfl) ⟨by decide, by decide, rfl, rfl, rfl⟩ ⟨by decide, by decide⟩ fr129 (Wl.ut wl134 (fun t ht => by cases ht; exact ⟨_, sh135⟩)) ⟨Nat.le_of_ble_eq_true rfl, Nat.le_of_ble_eq_true rfl⟩ (fun L' h => ⟨(by have e0 : L'.1 (b + 0) = L108.1 (b + 0) := (h.1 _ (by omega)).1; rw [e0]), (by have e0 : L'.1 (b + 0) = L108.1 (b + 0) := (h.1 _ (by omega)).1; rw [e0])⟩) (fun L136 hNw137 => ?_)
  have sh138 : L136.2.1 (b + 0) = some (2, 0) := (hNw137.1 (b + 0) (by omega)).2.1.trans sh110
  have sh139 : L136.2.1 (b + 1) = some (10, 6) := (hNw137.1 (b + 1) (by omega)).2.1.trans sh111
  have sh140 : L136.2.1 (b + 2) = some (10, 6) := (hNw137.1 (b + 2) (by omega)).2.1.trans sh112
  have sh141 : L136.2.1 (b + 3) = some (10, 12) := (hNw137.1 (b + 3) (by omega)).2.1.trans sh113
  have sh142 : L136.2.1 (b + 4) = some (7, 0) := (hNw137.1 (b + 4) (by omega)).2.1.trans sh114
  have sh143 : L136.2.1 (b + 9) = some (10, 24) := (hNw137.1 (b + 9) (by omega)).2.1.trans sh115
  have sh144 : L136.2.1 (b + 10) = some (10, 24) := (hNw137.1 (b + 10) (by omega)).2.1.trans sh116
  have sh145 : L136.2.1 (b + 11) = some (10, 24) := (hNw137.1 (b + 11) (by omega)).2.1.trans sh117
  have sh146 : L136.2.1 (b + 12) = some (10, 24) := (hNw137.1 (b + 12) (by omega)).2.1.trans sh118
  have sh147 : L136.2.1 (b + 13) = some (10, 24) := (hNw137.1 (b + 13) (by omega)).2.1.trans sh119
  have sh148 : L136.2.1 (b + 5) = some (15, 14) := (hNw137.1 (b + 5) (by omega)).2.1.trans sh135
  have tg149 : L136.2.2 (b + 0) 1 = some (b + 1) := ((hNw137.1 (b + 0) (by omega)).2.2 1).trans ((ut_n (by omega)).trans tg120)
  have tg150 : L136.2.2 (b + 0) 2 = some (b + 2) := ((hNw137.1 (b + 0) (by omega)).2.2 2).trans ((ut_n (by omega)).trans tg121)
  have tg151 : L136.2.2 (b + 0) 4 = some (b + 3) := ((hNw137.1 (b + 0) (by omega)).2.2 4).trans ((ut_n (by omega)).trans tg122)
  have tg152 : L136.2.2 (b + 4) 1 = some (b + 9) := ((hNw137.1 (b + 4) (by omega)).2.2 1).trans ((ut_n (by omega)).trans tg123)
  have tg153 : L136.2.2 (b + 4) 2 = some (b + 10) := ((hNw137.1 (b + 4) (by omega)).2.2 2).trans ((ut_n (by omega)).trans tg124)
  have tg154 : L136.2.2 (b + 4) 3 = some (b + 11) := ((hNw137.1 (b + 4) (by omega)).2.2 3).trans ((ut_n (by omega)).trans tg125)
  have tg155 : L136.2.2 (b + 4) 4 = some (b + 12) := ((hNw137.1 (b + 4) (by omega)).2.2 4).trans ((ut_n (by omega)).trans tg126)
  have tg156 : L136.2.2 (b + 4) 5 = some (b + 13) := ((hNw137.1 (b + 4) (by omega)).2.2 5).trans ((ut_n (by omega)).trans tg127)
  have tg157 : L136.2.2 (b + 0) 5 = some (b + 4) := ((hNw137.1 (b + 0) (by omega)).2.2 5).trans ((ut_n (by omega)).trans tg128)
  have tg158 : L136.2.2 (b + 0) 7 = some (b + 5) := ((hNw137.1 (b + 0) (by omega)).2.2 7).trans ut_s
  have fr159 : L136.2.1 (b + 7) = none := (hNw137.1 (b + 7) (by omega)).2.1.trans fr130
  have fr160 : L136.2.1 (b + 8) = none := (hNw137.1 (b + 8) (by omega)).2.1.trans fr131
  have ad162 : L136.1 (b + 0) = L.1 (b + 0) := (hNw137.1 (b + 0) (by omega)).1.trans ad133
  have wl163 : Wl L136 := Wl.nw (Wl.ut wl134 (fun t ht => by cases ht; exact ⟨_, sh135⟩)) fr129 hNw137
  have sh164 : L136.2.1 (b + 6) = some (10, 3) := hNw137.2.1
  refine r_dup hX dX3_init_67 rfl ?_
  refine r_iconst hX (nI 0) dX3_init_68 rfl ?_
  refine r_iconst hX (-1) dX3_init_69 rfl ?_
  refine r_astN hX dX3_init_70 sh164 (by decide) (by decide) ?_
  refine r_dup hX dX3_init_71 rfl ?_
  refine r_iconst hX (nI 1) dX3_init_72 rfl ?_
  refine r_iconst hX (-1) dX3_init_73 rfl ?_
  refine r_astN hX dX3_init_74 sh164 (by decide) (by decide) ?_
  refine r_dup hX dX3_init_75 rfl ?_
  refine r_iconst hX (nI 2) dX3_init_76 rfl ?_
  refine r_iconst hX (-1) dX3_init_77 rfl ?_
  refine r_astN hX dX3_init_78 sh164 (by decide) (by decide) ?_
  refine r_putR hX (some (b + 6)) dX3_init_79 fl_X3_44 sh138 rfl (Or.inr ⟨rfl, rfl⟩) ?_
  refine r_aload_n hX dX3_init_82 rfl ?_
  refine r_iconst hX (nI 1) dX3_init_83 rfl ?_
  refine r_putI hX dX3_init_84 fl_X3_47 sh138 rfl rfl rfl rfl ?_
  refine r_aload_n hX dX3_init_87 rfl ?_
  refine r_bipush hX (nI 6) dX3_init_88 rfl ?_
  refine r_newa hX (b + 7) 10 (fun L' => [(0, .ref (L'.1 (b + 0)))]) (fun L' => [.ref (L'.1 (b + 0))]) dX3_init_90 (inT_1 (List.mem_of_getElem? (i := 72) rfl) rfl) ⟨by decide, by decide, rfl, rfl, rfl⟩ ⟨by decide, by decide⟩ fr159 (Wl.ut wl163 (fun t ht => by cases ht; exact ⟨_, sh164⟩)) ⟨Nat.le_of_ble_eq_true rfl, Nat.le_of_ble_eq_true rfl⟩ (fun L' h => ⟨(by have e0 : L'.1 (b + 0) = L136.1 (b + 0) := (h.1 _ (by omega)).1; rw [e0]), (by have e0 : L'.1 (b + 0) = L136.1 (b + 0) := (h.1 _ (by omega)).1; rw [e0])⟩) (fun L165 hNw166 => ?_)
  have sh167 : L165.2.1 (b + 0) = some (2, 0) := (hNw166.1 (b + 0) (by omega)).2.1.trans sh138
  have sh168 : L165.2.1 (b + 1) = some (10, 6) := (hNw166.1 (b + 1) (by omega)).2.1.trans sh139
  have sh169 : L165.2.1 (b + 2) = some (10, 6) := (hNw166.1 (b + 2) (by omega)).2.1.trans sh140
  have sh170 : L165.2.1 (b + 3) = some (10, 12) := (hNw166.1 (b + 3) (by omega)).2.1.trans sh141
  have sh171 : L165.2.1 (b + 4) = some (7, 0) := (hNw166.1 (b + 4) (by omega)).2.1.trans sh142
  have sh172 : L165.2.1 (b + 9) = some (10, 24) := (hNw166.1 (b + 9) (by omega)).2.1.trans sh143
  have sh173 : L165.2.1 (b + 10) = some (10, 24) := (hNw166.1 (b + 10) (by omega)).2.1.trans sh144
  have sh174 : L165.2.1 (b + 11) = some (10, 24) := (hNw166.1 (b + 11) (by omega)).2.1.trans sh145
  have sh175 : L165.2.1 (b + 12) = some (10, 24) := (hNw166.1 (b + 12) (by omega)).2.1.trans sh146
  have sh176 : L165.2.1 (b + 13) = some (10, 24) := (hNw166.1 (b + 13) (by omega)).2.1.trans sh147
  have sh177 : L165.2.1 (b + 5) = some (15, 14) := (hNw166.1 (b + 5) (by omega)).2.1.trans sh148
  have sh178 : L165.2.1 (b + 6) = some (10, 3) := (hNw166.1 (b + 6) (by omega)).2.1.trans sh164
  have tg179 : L165.2.2 (b + 0) 1 = some (b + 1) := ((hNw166.1 (b + 0) (by omega)).2.2 1).trans ((ut_n (by omega)).trans tg149)
  have tg180 : L165.2.2 (b + 0) 2 = some (b + 2) := ((hNw166.1 (b + 0) (by omega)).2.2 2).trans ((ut_n (by omega)).trans tg150)
  have tg181 : L165.2.2 (b + 0) 4 = some (b + 3) := ((hNw166.1 (b + 0) (by omega)).2.2 4).trans ((ut_n (by omega)).trans tg151)
  have tg182 : L165.2.2 (b + 4) 1 = some (b + 9) := ((hNw166.1 (b + 4) (by omega)).2.2 1).trans ((ut_n (by omega)).trans tg152)
  have tg183 : L165.2.2 (b + 4) 2 = some (b + 10) := ((hNw166.1 (b + 4) (by omega)).2.2 2).trans ((ut_n (by omega)).trans tg153)
  have tg184 : L165.2.2 (b + 4) 3 = some (b + 11) := ((hNw166.1 (b + 4) (by omega)).2.2 3).trans ((ut_n (by omega)).trans tg154)
  have tg185 : L165.2.2 (b + 4) 4 = some (b + 12) := ((hNw166.1 (b + 4) (by omega)).2.2 4).trans ((ut_n (by omega)).trans tg155)
  have tg186 : L165.2.2 (b + 4) 5 = some (b + 13) := ((hNw166.1 (b + 4) (by omega)).2.2 5).trans ((ut_n (by omega)).trans tg156)
  have tg187 : L165.2.2 (b + 0) 5 = some (b + 4) := ((hNw166.1 (b + 0) (by omega)).2.2 5).trans ((ut_n (by omega)).trans tg157)
  have tg188 : L165.2.2 (b + 0) 7 = some (b + 5) := ((hNw166.1 (b + 0) (by omega)).2.2 7).trans ((ut_n (by omega)).trans tg158)
  have tg189 : L165.2.2 (b + 0) 8 = some (b + 6) := ((hNw166.1 (b + 0) (by omega)).2.2 8).trans ut_s
  have fr190 : L165.2.1 (b + 8) = none := (hNw166.1 (b + 8) (by omega)).2.1.trans fr160
  have ad192 : L165.1 (b + 0) = L.1 (b + 0) := (hNw166.1 (b + 0) (by omega)).1.trans ad162
  have wl193 : Wl L165 := Wl.nw (Wl.ut wl163 (fun t ht => by cases ht; exact ⟨_, sh164⟩)) fr159 hNw166
  have sh194 : L165.2.1 (b + 7) = some (10, 6) := hNw166.2.1
  refine r_putR hX (some (b + 7)) dX3_init_92 fl_X3_50 sh167 rfl (Or.inr ⟨rfl, rfl⟩) ?_
  refine r_aload_n hX dX3_init_95 rfl ?_
  refine r_bipush hX (nI 24) dX3_init_96 rfl ?_
  refine r_newa hX (b + 8) 10 (fun L' => [(0, .ref (L'.1 (b + 0)))]) (fun L' => [.ref (L'.1 (b + 0))]) dX3_init_98 (inT_1 (List.mem_of_getElem? (i := 72) rfl) rfl) ⟨by decide, by decide, rfl, rfl, rfl⟩ ⟨by decide, by decide⟩ fr190 (Wl.ut wl193 (fun t ht => by cases ht; exact ⟨_, sh194⟩)) ⟨Nat.le_of_ble_eq_true rfl, Nat.le_of_ble_eq_true rfl⟩ (fun L' h => ⟨(by have e0 : L'.1 (b + 0) = L165.1 (b + 0) := (h.1 _ (by omega)).1; rw [e0]), (by have e0 : L'.1 (b + 0) = L165.1 (b + 0) := (h.1 _ (by omega)).1; rw [e0])⟩) (fun L195 hNw196 => ?_)
  have sh197 : L195.2.1 (b + 0) = some (2, 0) := (hNw196.1 (b + 0) (by omega)).2.1.trans sh167
  have sh198 : L195.2.1 (b + 1) = some (10, 6) := (hNw196.1 (b + 1) (by omega)).2.1.trans sh168
  have sh199 : L195.2.1 (b + 2) = some (10, 6) := (hNw196.1 (b + 2) (by omega)).2.1.trans sh169
  have sh200 : L195.2.1 (b + 3) = some (10, 12) := (hNw196.1 (b + 3) (by omega)).2.1.trans sh170
  have sh201 : L195.2.1 (b + 4) = some (7, 0) := (hNw196.1 (b + 4) (by omega)).2.1.trans sh171
  have sh202 : L195.2.1 (b + 9) = some (10, 24) := (hNw196.1 (b + 9) (by omega)).2.1.trans sh172
  have sh203 : L195.2.1 (b + 10) = some (10, 24) := (hNw196.1 (b + 10) (by omega)).2.1.trans sh173
  have sh204 : L195.2.1 (b + 11) = some (10, 24) := (hNw196.1 (b + 11) (by omega)).2.1.trans sh174
  have sh205 : L195.2.1 (b + 12) = some (10, 24) := (hNw196.1 (b + 12) (by omega)).2.1.trans sh175
  have sh206 : L195.2.1 (b + 13) = some (10, 24) := (hNw196.1 (b + 13) (by omega)).2.1.trans sh176
  have sh207 : L195.2.1 (b + 5) = some (15, 14) := (hNw196.1 (b + 5) (by omega)).2.1.trans sh177
  have sh208 : L195.2.1 (b + 6) = some (10, 3) := (hNw196.1 (b + 6) (by omega)).2.1.trans sh178
  have sh209 : L195.2.1 (b + 7) = some (10, 6) := (hNw196.1 (b + 7) (by omega)).2.1.trans sh194
  have tg210 : L195.2.2 (b + 0) 1 = some (b + 1) := ((hNw196.1 (b + 0) (by omega)).2.2 1).trans ((ut_n (by omega)).trans tg179)
  have tg211 : L195.2.2 (b + 0) 2 = some (b + 2) := ((hNw196.1 (b + 0) (by omega)).2.2 2).trans ((ut_n (by omega)).trans tg180)
  have tg212 : L195.2.2 (b + 0) 4 = some (b + 3) := ((hNw196.1 (b + 0) (by omega)).2.2 4).trans ((ut_n (by omega)).trans tg181)
  have tg213 : L195.2.2 (b + 4) 1 = some (b + 9) := ((hNw196.1 (b + 4) (by omega)).2.2 1).trans ((ut_n (by omega)).trans tg182)
  have tg214 : L195.2.2 (b + 4) 2 = some (b + 10) := ((hNw196.1 (b + 4) (by omega)).2.2 2).trans ((ut_n (by omega)).trans tg183)
  have tg215 : L195.2.2 (b + 4) 3 = some (b + 11) := ((hNw196.1 (b + 4) (by omega)).2.2 3).trans ((ut_n (by omega)).trans tg184)
  have tg216 : L195.2.2 (b + 4) 4 = some (b + 12) := ((hNw196.1 (b + 4) (by omega)).2.2 4).trans ((ut_n (by omega)).trans tg185)
  have tg217 : L195.2.2 (b + 4) 5 = some (b + 13) := ((hNw196.1 (b + 4) (by omega)).2.2 5).trans ((ut_n (by omega)).trans tg186)
  have tg218 : L195.2.2 (b + 0) 5 = some (b + 4) := ((hNw196.1 (b + 0) (by omega)).2.2 5).trans ((ut_n (by omega)).trans tg187)
  have tg219 : L195.2.2 (b + 0) 7 = some (b + 5) := ((hNw196.1 (b + 0) (by omega)).2.2 7).trans ((ut_n (by omega)).trans tg188)
  have tg220 : L195.2.2 (b + 0) 8 = some (b + 6) := ((hNw196.1 (b + 0) (by omega)).2.2 8).trans ((ut_n (by omega)).trans tg189)
  have tg221 : L195.2.2 (b + 0) 10 = some (b + 7) := ((hNw196.1 (b + 0) (by omega)).2.2 10).trans ut_s
  have ad223 : L195.1 (b + 0) = L.1 (b + 0) := (hNw196.1 (b + 0) (by omega)).1.trans ad192
  have wl224 : Wl L195 := Wl.nw (Wl.ut wl193 (fun t ht => by cases ht; exact ⟨_, sh194⟩)) fr190 hNw196
  have sh225 : L195.2.1 (b + 8) = some (10, 24) := hNw196.2.1
  refine r_putR hX (some (b + 8)) dX3_init_100 fl_X3_53 sh197 rfl (Or.inr ⟨rfl, rfl⟩) ?_
  exact r_return hX hQ dX3_init_103 ⟨Nat.le_of_ble_eq_true rfl, Nat.le_of_ble_eq_true rfl⟩ (PN.mk ⟨(LX.ut (LX.nw (LX.ut (LX.nw (LX.ut (LX.nw (LX.ut (LX.nw (LX.ut (LX.tr (LX.nw (LX.ut (LX.nw (LX.ut (LX.nw (LX.ut (LX.nw (LX.rf _ L) hNw2 (by unfold pRm; omega)) (by unfold pRm; omega)) hNw21 (by unfold pRm; omega)) (by unfold pRm; omega)) hNw41 (by unfold pRm; omega)) (by unfold pRm; omega)) hNw62 (by unfold pRm; omega)) (LX.mono n87 (fun d hd => by unfold pWd at hd; unfold pRm; omega))) (by unfold pRm; omega)) hNw109 (by unfold pRm; omega)) (by unfold pRm; omega)) hNw137 (by unfold pRm; omega)) (by unfold pRm; omega)) hNw166 (by unfold pRm; omega)) (by unfold pRm; omega)) hNw196 (by unfold pRm; omega)) (by unfold pRm; omega)), ad223, RAt.of hb sh197 sh198 sh199 sh200 sh201 sh207 sh208 sh209 sh225 sh202 sh203 sh204 sh205 sh206 ((ut_n (by omega)).trans tg210) ((ut_n (by omega)).trans tg211) ((ut_n (by omega)).trans tg212) ((ut_n (by omega)).trans tg218) ((ut_n (by omega)).trans tg219) ((ut_n (by omega)).trans tg220) ((ut_n (by omega)).trans tg221) ut_s ((ut_n (by omega)).trans tg213) ((ut_n (by omega)).trans tg214) ((ut_n (by omega)).trans tg215) ((ut_n (by omega)).trans tg216) ((ut_n (by omega)).trans tg217), (Wl.ut wl224 (fun t ht => by cases ht; exact ⟨_, sh225⟩)), fun j => ((ut_n (by omega)).trans (((hNw196.1 (b + 5) (by omega)).2.2 j).trans ((ut_n (by omega)).trans (((hNw166.1 (b + 5) (by omega)).2.2 j).trans ((ut_n (by omega)).trans (((hNw137.1 (b + 5) (by omega)).2.2 j).trans ((ut_n (by omega)).trans (hNw109.2.2 j)))))))), ⟨(by show _ = _; rw [zr_n (by omega), zr_n (by omega), up_n (by omega), up_n (by omega), up_n (by omega), up_n (by omega), zr_n (by omega), zr_n (by omega), up_n (by omega), n94 _ _ (by unfold pWd; omega), zr_n (by omega), zr_n (by omega), up_n (by omega), zr_n (by omega), zr_n (by omega), up_s] <;> rfl), (by show _ = _; rw [zr_n (by omega), zr_n (by omega), up_n (by omega), up_n (by omega), up_n (by omega), up_n (by omega), zr_n (by omega), zr_n (by omega), up_n (by omega), n94 _ _ (by unfold pWd; omega), zr_n (by omega), zr_n (by omega), up_s] <;> rfl), (by show _ = _; rw [zr_n (by omega), zr_n (by omega), up_n (by omega), up_n (by omega), up_n (by omega), up_n (by omega), zr_n (by omega), zr_n (by omega), up_s] <;> rfl), (by show _ = _; rw [zr_n (by omega), zr_n (by omega), up_s] <;> rfl), (fun t ht => absurd ht (Nat.not_lt_zero t)), (fun t ht => absurd ht (Nat.not_lt_zero t)), (fun t ht => absurd ht (Nat.not_lt_zero t)), (fun y hy => by rcases (show y = 0 ∨ y = 1 ∨ y = 2 from by omega) with rfl | rfl | rfl; exact (by show _ = _; rw [zr_n (by omega), zr_n (by omega), up_n (by omega), up_n (by omega), up_n (by omega), up_s] <;> rfl); exact (by show _ = _; rw [zr_n (by omega), zr_n (by omega), up_n (by omega), up_n (by omega), up_s] <;> rfl); exact (by show _ = _; rw [zr_n (by omega), zr_n (by omega), up_n (by omega), up_s] <;> rfl))⟩, ⟨(by show _ = _; rw [zr_n (by omega), zr_n (by omega), up_n (by omega), up_n (by omega), up_n (by omega), up_n (by omega), zr_n (by omega), zr_n (by omega), up_n (by omega), n93] <;> rfl), fun t ht => absurd ht (Nat.not_lt_zero t), fun t ht => absurd ht (Nat.not_lt_zero t), fun t ht => absurd ht (Nat.not_lt_zero t), fun t ht => absurd ht (Nat.not_lt_zero t), fun t ht => absurd ht (Nat.not_lt_zero t)⟩, fun d i hd => (by show _ = _; rw [zr_n (by unfold pRm at hd; omega), zr_n (by unfold pRm at hd; omega), up_n (by unfold pRm at hd; omega), up_n (by unfold pRm at hd; omega), up_n (by unfold pRm at hd; omega), up_n (by unfold pRm at hd; omega), zr_n (by unfold pRm at hd; omega), zr_n (by unfold pRm at hd; omega), up_n (by unfold pRm at hd; omega), n94 _ _ (by unfold pRm at hd; unfold pWd; omega), zr_n (by unfold pRm at hd; omega), zr_n (by unfold pRm at hd; omega), up_n (by unfold pRm at hd; omega), zr_n (by unfold pRm at hd; omega), zr_n (by unfold pRm at hd; omega), up_n (by unfold pRm at hd; omega)] <;> rfl)⟩)
