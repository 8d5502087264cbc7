set_option maxHeartbeats 4000000 in
set_option maxRecDepth 100000 in
theorem c_X0_init {l : Launch} {D : Ds} {L : La}  (e : Nat) (h0 : L.2.1 e = some (0, 0)) (h1 : L.2.1 (e + 1) = none) (hW : Wl L) (σ : Me) : Ct l yX0_init cX0_init 1 none { frames := 1, cells := 1, slots := 12, locals := 20 } D L σ [.ref (L.1 e)] (PN (NwO L σ e 0 10 12 (fun σ' => True))) := by
  refine Ct.of (by decide) (Nat.le_of_ble_eq_true rfl) ?_
  intro X hl hD hnl hX0 hQ
  have hX : Ok X cX0_init RX0 "<init>" { frames := 1, cells := 1, slots := 12, locals := 20 } none := hX0
  show At X L σ 0 0 [(0, .ref (L.1 e))] 0 []
  refine r_aload_n hX dX0_init_0 rfl ?_
  refine r_oinit hX dX0_init_1 ⟨(inT_1 (List.mem_of_getElem? (i := 129) rfl) rfl), w_oi.1, w_oi.2⟩ ⟨Nat.le_of_ble_eq_true rfl, Nat.le_of_ble_eq_true rfl⟩ (Nat.le_of_ble_eq_true rfl) ?_
  refine r_aload_n hX dX0_init_4 rfl ?_
  refine r_bipush hX (nI 12) dX0_init_5 rfl ?_
  refine r_newa hX (e + 1) 10 (fun L' => [(0, .ref (L'.1 e))]) (fun L' => [.ref (L'.1 e)]) dX0_init_7 (inT_1 (List.mem_of_getElem? (i := 72) rfl) rfl) ⟨by decide, by decide, rfl, rfl, rfl⟩ ⟨by decide, by decide⟩ h1 hW ⟨Nat.le_of_ble_eq_true rfl, Nat.le_of_ble_eq_true rfl⟩ (fun L' h => ⟨(by have e0 : L'.1 e = L.1 e := (h.1 _ (by omega)).1; rw [e0]), (by have e0 : L'.1 e = L.1 e := (h.1 _ (by omega)).1; rw [e0])⟩) (fun L1 hNw2 => ?_)
  have sh3 : L1.2.1 (e) = some (0, 0) := (hNw2.1 (e) (by omega)).2.1.trans h0
  have ad5 : L1.1 (e) = L.1 (e) := (hNw2.1 (e) (by omega)).1.trans rfl
  have wl6 : Wl L1 := Wl.nw hW h1 hNw2
  have sh7 : L1.2.1 (e + 1) = some (10, 12) := hNw2.2.1
  refine r_putR hX (some (e + 1)) dX0_init_9 fl_X0_9 sh3 rfl (Or.inr ⟨rfl, rfl⟩) ?_
  exact r_return hX hQ dX0_init_12 ⟨Nat.le_of_ble_eq_true rfl, Nat.le_of_ble_eq_true rfl⟩ (PN.mk ⟨(LX.ut (LX.nw (LX.rf _ L) hNw2 (by unfold pOb; omega)) (by unfold pOb; omega)), ad5, (sh3).trans h0.symm, sh7, ut_s, (Wl.ut wl6 (fun t ht => by cases ht; exact ⟨_, sh7⟩)), fun i => (by show _ = _; rw [zr_s] <;> rfl), trivial, fun d i hd => (by show _ = _; rw [zr_n (by unfold pOb at hd; omega)] <;> rfl)⟩)

set_option maxHeartbeats 4000000 in
set_option maxRecDepth 100000 in
theorem c_X6_init {l : Launch} {D : Ds} {L : La}  (e : Nat) (h0 : L.2.1 e = some (5, 0)) (h1 : L.2.1 (e + 1) = none) (hW : Wl L) (σ : Me) : Ct l yX6_init cX6_init 1 none { frames := 1, cells := 1, slots := 96, locals := 20 } D L σ [.ref (L.1 e)] (PN (NwO L σ e 0 11 96 (fun σ' => σ' e 1 = 0))) := by
  refine Ct.of (by decide) (Nat.le_of_ble_eq_true rfl) ?_
  intro X hl hD hnl hX0 hQ
  have hX : Ok X cX6_init RX6 "<init>" { frames := 1, cells := 1, slots := 96, locals := 20 } none := hX0
  show At X L σ 0 0 [(0, .ref (L.1 e))] 0 []
  refine r_aload_n hX dX6_init_0 rfl ?_
  refine r_oinit hX dX6_init_1 ⟨(inT_1 (List.mem_of_getElem? (i := 139) rfl) rfl), w_oi.1, w_oi.2⟩ ⟨Nat.le_of_ble_eq_true rfl, Nat.le_of_ble_eq_true rfl⟩ (Nat.le_of_ble_eq_true rfl) ?_
  refine r_aload_n hX dX6_init_4 rfl ?_
  refine r_bipush hX (nI 96) dX6_init_5 rfl ?_
  refine r_newa hX (e + 1) 11 (fun L' => [(0, .ref (L'.1 e))]) (fun L' => [.ref (L'.1 e)]) dX6_init_7 (inT_1 (List.mem_of_getElem? (i := 150) rfl) rfl) ⟨by decide, by decide, rfl, rfl, rfl⟩ ⟨by decide, by decide⟩ h1 hW ⟨Nat.le_of_ble_eq_true rfl, Nat.le_of_ble_eq_true rfl⟩ (fun L' h => ⟨(by have e0 : L'.1 e = L.1 e := (h.1 _ (by omega)).1; rw [e0]), (by have e0 : L'.1 e = L.1 e := (h.1 _ (by omega)).1; rw [e0])⟩) (fun L1 hNw2 => ?_)
  have sh3 : L1.2.1 (e) = some (5, 0) := (hNw2.1 (e) (by omega)).2.1.trans h0
  have ad5 : L1.1 (e) = L.1 (e) := (hNw2.1 (e) (by omega)).1.trans rfl
  have wl6 : Wl L1 := Wl.nw hW h1 hNw2
  have sh7 : L1.2.1 (e + 1) = some (11, 96) := hNw2.2.1
  refine r_putR hX (some (e + 1)) dX6_init_9 fl_X6_9 sh3 rfl (Or.inr ⟨rfl, rfl⟩) ?_
  refine r_aload_n hX dX6_init_12 rfl ?_
  refine r_iconst hX (nI 0) dX6_init_13 rfl ?_
  refine r_putI hX dX6_init_14 fl_X6_15 sh3 rfl rfl rfl rfl ?_
  exact r_return hX hQ dX6_init_17 ⟨Nat.le_of_ble_eq_true rfl, Nat.le_of_ble_eq_true rfl⟩ (PN.mk ⟨(LX.ut (LX.nw (LX.rf _ L) hNw2 (by unfold pOb; omega)) (by unfold pOb; omega)), ad5, (sh3).trans h0.symm, sh7, ut_s, (Wl.ut wl6 (fun t ht => by cases ht; exact ⟨_, sh7⟩)), fun i => (by show _ = _; rw [up_n (by omega), zr_s] <;> rfl), (by show _ = _; rw [up_s] <;> rfl), fun d i hd => (by show _ = _; rw [up_n (by unfold pOb at hd; omega), zr_n (by unfold pOb at hd; omega)] <;> rfl)⟩)

set_option maxHeartbeats 4000000 in
set_option maxRecDepth 100000 in
theorem c_X4_init {l : Launch} {D : Ds} {L : La}  (e : Nat) (h0 : L.2.1 e = some (3, 0)) (h1 : L.2.1 (e + 1) = none) (hW : Wl L) (σ : Me) : Ct l yX4_init cX4_init 1 none { frames := 1, cells := 1, slots := 24, locals := 20 } D L σ [.ref (L.1 e)] (PN (NwO L σ e 2 10 24 (fun σ' => σ' e 0 = (-1) ∧ σ' e 1 = 0))) := by
  refine Ct.of (by decide) (Nat.le_of_ble_eq_true rfl) ?_
  intro X hl hD hnl hX0 hQ
  have hX : Ok X cX4_init RX4 "<init>" { frames := 1, cells := 1, slots := 24, locals := 20 } none := hX0
  show At X L σ 0 0 [(0, .ref (L.1 e))] 0 []
  refine r_aload_n hX dX4_init_0 rfl ?_
  refine r_oinit hX dX4_init_1 ⟨(inT_1 (List.mem_of_getElem? (i := 194) rfl) rfl), w_oi.1, w_oi.2⟩ ⟨Nat.le_of_ble_eq_true rfl, Nat.le_of_ble_eq_true rfl⟩ (Nat.le_of_ble_eq_true rfl) ?_
  refine r_aload_n hX dX4_init_4 rfl ?_
  refine r_iconst hX (-1) dX4_init_5 rfl ?_
  refine r_putI hX dX4_init_6 fl_X4_11 h0 rfl rfl rfl rfl ?_
  refine r_aload_n hX dX4_init_9 rfl ?_
  refine r_iconst hX (nI 0) dX4_init_10 rfl ?_
  refine r_putI hX dX4_init_11 fl_X4_15 h0 rfl rfl rfl rfl ?_
  refine r_aload_n hX dX4_init_14 rfl ?_
  refine r_bipush hX (nI 24) dX4_init_15 rfl ?_
  refine r_newa hX (e + 1) 10 (fun L' => [(0, .ref (L'.1 e))]) (fun L' => [.ref (L'.1 e)]) dX4_init_17 (inT_1 (List.mem_of_getElem? (i := 72) rfl) rfl) ⟨by decide, by decide, rfl, rfl, rfl⟩ ⟨by decide, by decide⟩ h1 hW ⟨Nat.le_of_ble_eq_true rfl, Nat.le_of_ble_eq_true rfl⟩ (fun L' h => ⟨(by have e0 : L'.1 e = L.1 e := (h.1 _ (by omega)).1; rw [e0]), (by have e0 : L'.1 e = L.1 e := (h.1 _ (by omega)).1; rw [e0])⟩) (fun L1 hNw2 => ?_)
  have sh3 : L1.2.1 (e) = some (3, 0) := (hNw2.1 (e) (by omega)).2.1.trans h0
  have ad5 : L1.1 (e) = L.1 (e) := (hNw2.1 (e) (by omega)).1.trans rfl
  have wl6 : Wl L1 := Wl.nw hW h1 hNw2
  have sh7 : L1.2.1 (e + 1) = some (10, 24) := hNw2.2.1
  refine r_putR hX (some (e + 1)) dX4_init_19 fl_X4_18 sh3 rfl (Or.inr ⟨rfl, rfl⟩) ?_
  exact r_return hX hQ dX4_init_22 ⟨Nat.le_of_ble_eq_true rfl, Nat.le_of_ble_eq_true rfl⟩ (PN.mk ⟨(LX.ut (LX.nw (LX.rf _ L) hNw2 (by unfold pOb; omega)) (by unfold pOb; omega)), ad5, (sh3).trans h0.symm, sh7, ut_s, (Wl.ut wl6 (fun t ht => by cases ht; exact ⟨_, sh7⟩)), fun i => (by show _ = _; rw [zr_s] <;> rfl), ⟨(by show _ = _; rw [zr_n (by omega), up_n (by omega), up_s] <;> rfl), (by show _ = _; rw [zr_n (by omega), up_s] <;> rfl)⟩, fun d i hd => (by show _ = _; rw [zr_n (by unfold pOb at hd; omega), up_n (by unfold pOb at hd; omega), up_n (by unfold pOb at hd; omega)] <;> rfl)⟩)

set_option maxHeartbeats 4000000 in
set_option maxRecDepth 100000 in
theorem c_X5_init {l : Launch} {D : Ds} {L : La}  (e : Nat) (h0 : L.2.1 e = some (4, 0)) (hW : Wl L) (σ : Me) : Ct l yX5_init cX5_init 1 none { frames := 1, cells := 0, slots := 0, locals := 20 } D L σ [.ref (L.1 e)] (PN (fun L' σ' => LX (pSl e) L L' ∧ L'.2.1 e = some (4, 0) ∧ L'.2.2 e 4 = none ∧ Wl L' ∧ σ' e 0 = nI 0 ∧ (∀ d i, ¬ pSl e d → σ' d i = σ d i) ∧ L'.1 e = L.1 e)) := by
  refine Ct.of (by decide) (Nat.le_of_ble_eq_true rfl) ?_
  intro X hl hD hnl hX0 hQ
  have hX : Ok X cX5_init RX5 "<init>" { frames := 1, cells := 0, slots := 0, locals := 20 } none := hX0
  show At X L σ 0 0 [(0, .ref (L.1 e))] 0 []
  refine r_aload_n hX dX5_init_0 rfl ?_
  refine r_oinit hX dX5_init_1 ⟨(inT_1 (List.mem_of_getElem? (i := 212) rfl) rfl), w_oi.1, w_oi.2⟩ ⟨Nat.le_of_ble_eq_true rfl, Nat.le_of_ble_eq_true rfl⟩ (Nat.le_of_ble_eq_true rfl) ?_
  refine r_aload_n hX dX5_init_4 rfl ?_
  refine r_iconst hX (nI 0) dX5_init_5 rfl ?_
  refine r_putI hX dX5_init_6 fl_X5_9 h0 rfl rfl rfl rfl ?_
  refine r_aload_n hX dX5_init_9 rfl ?_
  refine r_iconst hX (nI 0) dX5_init_10 rfl ?_
  refine r_putI hX dX5_init_11 fl_X5_15 h0 rfl rfl rfl rfl ?_
  refine r_aload_n hX dX5_init_14 rfl ?_
  refine r_iconst hX (nI 0) dX5_init_15 rfl ?_
  refine r_putI hX dX5_init_16 fl_X5_18 h0 rfl rfl rfl rfl ?_
  refine r_aload_n hX dX5_init_19 rfl ?_
  refine r_iconst hX (nI 0) dX5_init_20 rfl ?_
  refine r_putI hX dX5_init_21 fl_X5_21 h0 rfl rfl rfl rfl ?_
  refine r_aload_n hX dX5_init_24 rfl ?_
  refine r_null hX dX5_init_25 ?_
  refine r_putR hX none dX5_init_26 fl_X5_24 h0 rfl (Or.inl rfl) ?_
  exact r_return hX hQ dX5_init_29 ⟨Nat.le_of_ble_eq_true rfl, Nat.le_of_ble_eq_true rfl⟩ (PN.mk ⟨(LX.ut (LX.rf _ L) (by unfold pSl; rfl)), h0, ut_s, (Wl.ut hW (fun t ht => by cases ht)), (by show _ = _; rw [up_n (by omega), up_n (by omega), up_n (by omega), up_s] <;> rfl), fun d i hd => (by show _ = _; rw [up_n (by unfold pSl at hd; omega), up_n (by unfold pSl at hd; omega), up_n (by unfold pSl at hd; omega), up_n (by unfold pSl at hd; omega)] <;> rfl), rfl⟩)

set_option maxHeartbeats 4000000 in
set_option maxRecDepth 100000 in
theorem c_X2_init {l : Launch} {D : Ds} {L : La}  (e : Nat) (h0 : L.2.1 e = some (1, 0)) (h1 : L.2.1 (e + 1) = none) (hW : Wl L) (σ : Me) (g : Nat) (hg : L.2.1 g = some (5, 0)) (hge : g < e) : Ct l yX2_init cX2_init 2 none { frames := 1, cells := 1, slots := 96, locals := 20 } D L σ [.ref (L.1 e), .ref (L.1 g)] (PN (fun L' σ' => NwO L σ e 1 10 96 (fun _ => True) L' σ' ∧ L'.2.2 e 0 = some g)) := by
  refine Ct.of (by decide) (Nat.le_of_ble_eq_true rfl) ?_
  intro X hl hD hnl hX0 hQ
  have hX : Ok X cX2_init RX2 "<init>" { frames := 1, cells := 1, slots := 96, locals := 20 } none := hX0
  show At X L σ 0 0 [(0, .ref (L.1 e)), (1, .ref (L.1 g))] 0 []
  refine r_aload_n hX dX2_init_0 rfl ?_
  refine r_oinit hX dX2_init_1 ⟨(inT_1 (List.mem_of_getElem? (i := 156) rfl) rfl), w_oi.1, w_oi.2⟩ ⟨Nat.le_of_ble_eq_true rfl, Nat.le_of_ble_eq_true rfl⟩ (Nat.le_of_ble_eq_true rfl) ?_
  refine r_aload_n hX dX2_init_4 rfl ?_
  refine r_bipush hX (nI 96) dX2_init_5 rfl ?_
  refine r_newa hX (e + 1) 10 (fun L' => [(0, .ref (L'.1 e)), (1, .ref (L'.1 g))]) (fun L' => [.ref (L'.1 e)]) dX2_init_7 (inT_1 (List.mem_of_getElem? (i := 72) rfl) rfl) ⟨by decide, by decide, rfl, rfl, rfl⟩ ⟨by decide, by decide⟩ h1 hW ⟨Nat.le_of_ble_eq_true rfl, Nat.le_of_ble_eq_true rfl⟩ (fun L' h => ⟨(by have e0 : L'.1 e = L.1 e := (h.1 _ (by omega)).1; have e1 : L'.1 g = L.1 g := (h.1 _ (by omega)).1; rw [e0, e1]), (by have e0 : L'.1 e = L.1 e := (h.1 _ (by omega)).1; rw [e0])⟩) (fun L1 hNw2 => ?_)
  have sh3 : L1.2.1 (e) = some (1, 0) := (hNw2.1 (e) (by omega)).2.1.trans h0
  have sh4 : L1.2.1 (g) = some (5, 0) := (hNw2.1 (g) (by omega)).2.1.trans hg
  have ad6 : L1.1 (e) = L.1 (e) := (hNw2.1 (e) (by omega)).1.trans rfl
  have wl7 : Wl L1 := Wl.nw hW h1 hNw2
  have sh8 : L1.2.1 (e + 1) = some (10, 96) := hNw2.2.1
  refine r_putR hX (some (e + 1)) dX2_init_9 fl_X2_9 sh3 rfl (Or.inr ⟨rfl, rfl⟩) ?_
  refine r_aload_n hX dX2_init_12 rfl ?_
  refine r_iconst hX (nI 0) dX2_init_13 rfl ?_
  refine r_putI hX dX2_init_14 fl_X2_15 sh3 rfl rfl rfl rfl ?_
  refine r_aload_n hX dX2_init_17 rfl ?_
  refine r_iconst hX (nI 0) dX2_init_18 rfl ?_
  refine r_putI hX dX2_init_19 fl_X2_19 sh3 rfl rfl rfl rfl ?_
  refine r_aload_n hX dX2_init_22 rfl ?_
  refine r_iconst hX (nI 0) dX2_init_23 rfl ?_
  refine r_putI hX dX2_init_24 fl_X2_22 sh3 rfl rfl rfl rfl ?_
  refine r_aload_n hX dX2_init_27 rfl ?_
  refine r_iconst hX (-1) dX2_init_28 rfl ?_
  refine r_putI hX dX2_init_29 fl_X2_25 sh3 rfl rfl rfl rfl ?_
  refine r_aload_n hX dX2_init_32 rfl ?_
  refine r_iconst hX (nI 0) dX2_init_33 rfl ?_
  refine r_putI hX dX2_init_34 fl_X2_28 sh3 rfl rfl rfl rfl ?_
  refine r_aload_n hX dX2_init_37 rfl ?_
  refine r_iconst hX (nI 0) dX2_init_38 rfl ?_
  refine r_putI hX dX2_init_39 fl_X2_31 sh3 rfl rfl rfl rfl ?_
  refine r_aload_n hX dX2_init_42 rfl ?_
  refine r_iconst hX (nI 0) dX2_init_43 rfl ?_
  refine r_putI hX dX2_init_44 fl_X2_34 sh3 rfl rfl rfl rfl ?_
  refine r_aload_n hX dX2_init_47 rfl ?_
  refine r_aload_n hX dX2_init_48 rfl ?_
  refine r_putR hX (some (g)) dX2_init_49 fl_X2_37 sh3 rfl (Or.inr ⟨rfl, rfl⟩) ?_
  exact r_return hX hQ dX2_init_52 ⟨Nat.le_of_ble_eq_true rfl, Nat.le_of_ble_eq_true rfl⟩ (PN.mk ⟨⟨(LX.ut (LX.ut (LX.nw (LX.rf _ L) hNw2 (by unfold pOb; omega)) (by unfold pOb; omega)) (by unfold pOb; omega)), ad6, (sh3).trans h0.symm, sh8, ((ut_n (by omega)).trans ut_s), (Wl.ut (Wl.ut wl7 (fun t ht => by cases ht; exact ⟨_, sh8⟩)) (fun t ht => by cases ht; exact ⟨_, sh4⟩)), fun i => (by show _ = _; rw [up_n (by omega), up_n (by omega), up_n (by omega), up_n (by omega), up_n (by omega), up_n (by omega), up_n (by omega), zr_s] <;> rfl), trivial, fun d i hd => (by show _ = _; rw [up_n (by unfold pOb at hd; omega), up_n (by unfold pOb at hd; omega), up_n (by unfold pOb at hd; omega), up_n (by unfold pOb at hd; omega), up_n (by unfold pOb at hd; omega), up_n (by unfold pOb at hd; omega), up_n (by unfold pOb at hd; omega), zr_n (by unfold pOb at hd; omega)] <;> rfl)⟩, ut_s⟩)

set_option maxHeartbeats 4000000 in
set_option maxRecDepth 100000 in
theorem c_X8_init {l : Launch} {D : Ds} {L : La}  (b : Nat) (h0 : L.2.1 (b + 4) = some (7, 0)) (hf : ∀ i, 9 ≤ i → i ≤ 13 → L.2.1 (b + i) = none) (hW : Wl L) (σ : Me) : Ct l yX8_init cX8_init 1 none { frames := 1, cells := 5, slots := 120, locals := 20 } D L σ [.ref (L.1 (b + 4))] (PN (NwW L σ b)) := by
  refine Ct.of (by decide) (Nat.le_of_ble_eq_true rfl) ?_
  intro X hl hD hnl hX0 hQ
  have hX : Ok X cX8_init RX8 "<init>" { frames := 1, cells := 5, slots := 120, locals := 20 } none := hX0
  show At X L σ 0 0 [(0, .ref (L.1 (b + 4)))] 0 []
  refine r_aload_n hX dX8_init_0 rfl ?_
  refine r_oinit hX dX8_init_1 ⟨(inT_1 (List.mem_of_getElem? (i := 40) rfl) rfl), w_oi.1, w_oi.2⟩ ⟨Nat.le_of_ble_eq_true rfl, Nat.le_of_ble_eq_true rfl⟩ (Nat.le_of_ble_eq_true rfl) ?_
  refine r_aload_n hX dX8_init_4 rfl ?_
  refine r_iconst hX (nI 0) dX8_init_5 rfl ?_
  refine r_putI hX dX8_init_6 fl_X8_9 h0 rfl rfl rfl rfl ?_
  refine r_aload_n hX dX8_init_9 rfl ?_
  refine r_bipush hX (nI 24) dX8_init_10 rfl ?_
  refine r_newa hX (b + 9) 10 (fun L' => [(0, .ref (L'.1 (b + 4)))]) (fun L' => [.ref (L'.1 (b + 4))]) dX8_init_12 (inT_1 (List.mem_of_getElem? (i := 72) rfl) rfl) ⟨by decide, by decide, rfl, rfl, rfl⟩ ⟨by decide, by decide⟩ (hf 9 (by decide) (by decide)) hW ⟨Nat.le_of_ble_eq_true rfl, Nat.le_of_ble_eq_true rfl⟩ (fun L' h => ⟨(by have e0 : L'.1 (b + 4) = L.1 (b + 4) := (h.1 _ (by omega)).1; rw [e0]), (by have e0 : L'.1 (b + 4) = L.1 (b + 4) := (h.1 _ (by omega)).1; rw [e0])⟩) (fun L1 hNw2 => ?_)
  have sh3 : L1.2.1 (b + 4) = some (7, 0) := (hNw2.1 (b + 4) (by omega)).2.1.trans h0
  have fr4 : L1.2.1 (b + 10) = none := (hNw2.1 (b + 10) (by omega)).2.1.trans (hf 10 (by decide) (by decide))
  have fr5 : L1.2.1 (b + 11) = none := (hNw2.1 (b + 11) (by omega)).2.1.trans (hf 11 (by decide) (by decide))
  have fr6 : L1.2.1 (b + 12) = none := (hNw2.1 (b + 12) (by omega)).2.1.trans (hf 12 (by decide) (by decide))
  have fr7 : L1.2.1 (b + 13) = none := (hNw2.1 (b + 13) (by omega)).2.1.trans (hf 13 (by decide) (by decide))
  have ad9 : L1.1 (b + 4) = L.1 (b + 4) := (hNw2.1 (b + 4) (by omega)).1.trans rfl
  have wl10 : Wl L1 := Wl.nw hW (hf 9 (by decide) (by decide)) hNw2
  have sh11 : L1.2.1 (b + 9) = some (10, 24) := hNw2.2.1
  refine r_putR hX (some (b + 9)) dX8_init_14 fl_X8_15 sh3 rfl (Or.inr ⟨rfl, rfl⟩) ?_
  refine r_aload_n hX dX8_init_17 rfl ?_
  refine r_bipush hX (nI 24) dX8_init_18 rfl ?_
  refine r_newa hX (b + 10) 10 (fun L' => [(0, .ref (L'.1 (b + 4)))]) (fun L' => [.ref (L'.1 (b + 4))]) dX8_init_20 (inT_1 (List.mem_of_getElem? (i := 72) rfl) rfl) ⟨by decide, by decide, rfl, rfl, rfl⟩ ⟨by decide, by decide⟩ fr4 (Wl.ut wl10 (fun t ht => by cases ht; exact ⟨_, sh11⟩)) ⟨Nat.le_of_ble_eq_true rfl, Nat.le_of_ble_eq_true rfl⟩ (fun L' h => ⟨(by have e0 : L'.1 (b + 4) = L1.1 (b + 4) := (h.1 _ (by omega)).1; rw [e0]), (by have e0 : L'.1 (b + 4) = L1.1 (b + 4) := (h.1 _ (by omega)).1; rw [e0])⟩) (fun L12 hNw13 => ?_)
  have sh14 : L12.2.1 (b + 4) = some (7, 0) := (hNw13.1 (b + 4) (by omega)).2.1.trans sh3
  have sh15 : L12.2.1 (b + 9) = some (10, 24) := (hNw13.1 (b + 9) (by omega)).2.1.trans sh11
  have tg16 : L12.2.2 (b + 4) 1 = some (b + 9) := ((hNw13.1 (b + 4) (by omega)).2.2 1).trans ut_s
  have fr17 : L12.2.1 (b + 11) = none := (hNw13.1 (b + 11) (by omega)).2.1.trans fr5
  have fr18 : L12.2.1 (b + 12) = none := (hNw13.1 (b + 12) (by omega)).2.1.trans fr6
  have fr19 : L12.2.1 (b + 13) = none := (hNw13.1 (b + 13) (by omega)).2.1.trans fr7
  have ad21 : L12.1 (b + 4) = L.1 (b + 4) := (hNw13.1 (b + 4) (by omega)).1.trans ad9
  have wl22 : Wl L12 := Wl.nw (Wl.ut wl10 (fun t ht => by cases ht; exact ⟨_, sh11⟩)) fr4 hNw13
  have sh23 : L12.2.1 (b + 10) = some (10, 24) := hNw13.2.1
  refine r_putR hX (some (b + 10)) dX8_init_22 fl_X8_19 sh14 rfl (Or.inr ⟨rfl, rfl⟩) ?_
  refine r_aload_n hX dX8_init_25 rfl ?_
  refine r_bipush hX (nI 24) dX8_init_26 rfl ?_
  refine r_newa hX (b + 11) 10 (fun L' => [(0, .ref (L'.1 (b + 4)))]) (fun L' => [.ref (L'.1 (b + 4))]) dX8_init_28 (inT_1 (List.mem_of_getElem? (i := 72) rfl) rfl) ⟨by decide, by decide, rfl, rfl, rfl⟩ ⟨by decide, by decide⟩ fr17 (Wl.ut wl22 (fun t ht => by cases ht; exact ⟨_, sh23⟩)) ⟨Nat.le_of_ble_eq_true rfl, Nat.le_of_ble_eq_true rfl⟩ (fun L' h => ⟨(by have e0 : L'.1 (b + 4) = L12.1 (b + 4) := (h.1 _ (by omega)).1; rw [e0]), (by have e0 : L'.1 (b + 4) = L12.1 (b + 4) := (h.1 _ (by omega)).1; rw [e0])⟩) (fun L24 hNw25 => ?_)
  have sh26 : L24.2.1 (b + 4) = some (7, 0) := (hNw25.1 (b + 4) (by omega)).2.1.trans sh14
  have sh27 : L24.2.1 (b + 9) = some (10, 24) := (hNw25.1 (b + 9) (by omega)).2.1.trans sh15
  have sh28 : L24.2.1 (b + 10) = some (10, 24) := (hNw25.1 (b + 10) (by omega)).2.1.trans sh23
  have tg29 : L24.2.2 (b + 4) 1 = some (b + 9) := ((hNw25.1 (b + 4) (by omega)).2.2 1).trans ((ut_n (by omega)).trans tg16)
  have tg30 : L24.2.2 (b + 4) 2 = some (b + 10) := ((hNw25.1 (b + 4) (by omega)).2.2 2).trans ut_s
  have fr31 : L24.2.1 (b + 12) = none := (hNw25.1 (b + 12) (by omega)).2.1.trans fr18
  have fr32 : L24.2.1 (b + 13) = none := (hNw25.1 (b + 13) (by omega)).2.1.trans fr19
  have ad34 : L24.1 (b + 4) = L.1 (b + 4) := (hNw25.1 (b + 4) (by omega)).1.trans ad21
  have wl35 : Wl L24 := Wl.nw (Wl.ut wl22 (fun t ht => by cases ht; exact ⟨_, sh23⟩)) fr17 hNw25
  have sh36 : L24.2.1 (b + 11) = some (10, 24) := hNw25.2.1
  refine r_putR hX (some (b + 11)) dX8_init_30 fl_X8_22 sh26 rfl (Or.inr ⟨rfl, rfl⟩) ?_
  refine r_aload_n hX dX8_init_33 rfl ?_
  refine r_bipush hX (nI 24) dX8_init_34 rfl ?_
  refine r_newa hX (b + 12) 10 (fun L' => [(0, .ref (L'.1 (b + 4)))]) (fun L' => [.ref (L'.1 (b + 4))]) dX8_init_36 (inT_1 (List.mem_of_getElem? (i := 72) rfl) rfl) ⟨by decide, by decide, rfl, rfl, rfl⟩ ⟨by decide, by decide⟩ fr31 (Wl.ut wl35 (fun t ht => by cases ht; exact ⟨_, sh36⟩)) ⟨Nat.le_of_ble_eq_true rfl, Nat.le_of_ble_eq_true rfl⟩ (fun L' h => ⟨(by have e0 : L'.1 (b + 4) = L24.1 (b + 4) := (h.1 _ (by omega)).1; rw [e0]), (by have e0 : L'.1 (b + 4) = L24.1 (b + 4) := (h.1 _ (by omega)).1; rw [e0])⟩) (fun L37 hNw38 => ?_)
  have sh39 : L37.2.1 (b + 4) = some (7, 0) := (hNw38.1 (b + 4) (by omega)).2.1.trans sh26
  have sh40 : L37.2.1 (b + 9) = some (10, 24) := (hNw38.1 (b + 9) (by omega)).2.1.trans sh27
  have sh41 : L37.2.1 (b + 10) = some (10, 24) := (hNw38.1 (b + 10) (by omega)).2.1.trans sh28
  have sh42 : L37.2.1 (b + 11) = some (10, 24) := (hNw38.1 (b + 11) (by omega)).2.1.trans sh36
  have tg43 : L37.2.2 (b + 4) 1 = some (b + 9) := ((hNw38.1 (b + 4) (by omega)).2.2 1).trans ((ut_n (by omega)).trans tg29)
  have tg44 : L37.2.2 (b + 4) 2 = some (b + 10) := ((hNw38.1 (b + 4) (by omega)).2.2 2).trans ((ut_n (by omega)).trans tg30)
  have tg45 : L37.2.2 (b + 4) 3 = some (b + 11) := ((hNw38.1 (b + 4) (by omega)).2.2 3).trans ut_s
  have fr46 : L37.2.1 (b + 13) = none := (hNw38.1 (b + 13) (by omega)).2.1.trans fr32
  have ad48 : L37.1 (b + 4) = L.1 (b + 4) := (hNw38.1 (b + 4) (by omega)).1.trans ad34
  have wl49 : Wl L37 := Wl.nw (Wl.ut wl35 (fun t ht => by cases ht; exact ⟨_, sh36⟩)) fr31 hNw38
  have sh50 : L37.2.1 (b + 12) = some (10, 24) := hNw38.2.1
  refine r_putR hX (some (b + 12)) dX8_init_38 fl_X8_25 sh39 rfl (Or.inr ⟨rfl, rfl⟩) ?_
  refine r_aload_n hX dX8_init_41 rfl ?_
  refine r_bipush hX (nI 24) dX8_init_42 rfl ?_
  refine r_newa hX (b + 13) 10 (fun L' => [(0, .ref (L'.1 (b + 4)))]) (fun L' => [.ref (L'.1 (b + 4))]) dX8_init_44 (inT_1 (List.mem_of_getElem? (i := 72) rfl) rfl) ⟨by decide, by decide, rfl, rfl, rfl⟩ ⟨by decide, by decide⟩ fr46 (Wl.ut wl49 (fun t ht => by cases ht; exact ⟨_, sh50⟩)) ⟨Nat.le_of_ble_eq_true rfl, Nat.le_of_ble_eq_true rfl⟩ (fun L' h => ⟨(by have e0 : L'.1 (b + 4) = L37.1 (b + 4) := (h.1 _ (by omega)).1; rw [e0]), (by have e0 : L'.1 (b + 4) = L37.1 (b + 4) := (h.1 _ (by omega)).1; rw [e0])⟩) (fun L51 hNw52 => ?_)
  have sh53 : L51.2.1 (b + 4) = some (7, 0) := (hNw52.1 (b + 4) (by omega)).2.1.trans sh39
  have sh54 : L51.2.1 (b + 9) = some (10, 24) := (hNw52.1 (b + 9) (by omega)).2.1.trans sh40
  have sh55 : L51.2.1 (b + 10) = some (10, 24) := (hNw52.1 (b + 10) (by omega)).2.1.trans sh41
  have sh56 : L51.2.1 (b + 11) = some (10, 24) := (hNw52.1 (b + 11) (by omega)).2.1.trans sh42
  have sh57 : L51.2.1 (b + 12) = some (10, 24) := (hNw52.1 (b + 12) (by omega)).2.1.trans sh50
  have tg58 : L51.2.2 (b + 4) 1 = some (b + 9) := ((hNw52.1 (b + 4) (by omega)).2.2 1).trans ((ut_n (by omega)).trans tg43)
  have tg59 : L51.2.2 (b + 4) 2 = some (b + 10) := ((hNw52.1 (b + 4) (by omega)).2.2 2).trans ((ut_n (by omega)).trans tg44)
  have tg60 : L51.2.2 (b + 4) 3 = some (b + 11) := ((hNw52.1 (b + 4) (by omega)).2.2 3).trans ((ut_n (by omega)).trans tg45)
  have tg61 : L51.2.2 (b + 4) 4 = some (b + 12) := ((hNw52.1 (b + 4) (by omega)).2.2 4).trans ut_s
  have ad63 : L51.1 (b + 4) = L.1 (b + 4) := (hNw52.1 (b + 4) (by omega)).1.trans ad48
  have wl64 : Wl L51 := Wl.nw (Wl.ut wl49 (fun t ht => by cases ht; exact ⟨_, sh50⟩)) fr46 hNw52
  have sh65 : L51.2.1 (b + 13) = some (10, 24) := hNw52.2.1
  refine r_putR hX (some (b + 13)) dX8_init_46 fl_X8_28 sh53 rfl (Or.inr ⟨rfl, rfl⟩) ?_
  exact r_return hX hQ dX8_init_49 ⟨Nat.le_of_ble_eq_true rfl, Nat.le_of_ble_eq_true rfl⟩ (PN.mk ⟨(LX.ut (LX.nw (LX.ut (LX.nw (LX.ut (LX.nw (LX.ut (LX.nw (LX.ut (LX.nw (LX.rf _ L) hNw2 (by unfold pWd; omega)) (by unfold pWd; omega)) hNw13 (by unfold pWd; omega)) (by unfold pWd; omega)) hNw25 (by unfold pWd; omega)) (by unfold pWd; omega)) hNw38 (by unfold pWd; omega)) (by unfold pWd; omega)) hNw52 (by unfold pWd; omega)) (by unfold pWd; omega)), ad63, sh53, ⟨sh54, sh55, sh56, sh57, sh65⟩, ⟨((ut_n (by omega)).trans tg58), ((ut_n (by omega)).trans tg59), ((ut_n (by omega)).trans tg60), ((ut_n (by omega)).trans tg61), ut_s⟩, (Wl.ut wl64 (fun t ht => by cases ht; exact ⟨_, sh65⟩)), (by show _ = _; rw [zr_n (by omega), zr_n (by omega), zr_n (by omega), zr_n (by omega), zr_n (by omega), up_s] <;> rfl), fun d i hd => (by show _ = _; rw [zr_n (by unfold pWd at hd; omega), zr_n (by unfold pWd at hd; omega), zr_n (by unfold pWd at hd; omega), zr_n (by unfold pWd at hd; omega), zr_n (by unfold pWd at hd; omega), up_n (by unfold pWd at hd; omega)] <;> rfl)⟩)
