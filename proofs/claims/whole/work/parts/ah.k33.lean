set_option maxHeartbeats 4000000 in
set_option maxRecDepth 100000 in
theorem c_X4_becomeLike {l : Launch} {D : Ds} {L : La}  (σ : Me) (s o : Nat) (hs : SA L s) (ho : SA L o) (hso : o + 1 < s ∨ s + 1 < o) : Ct l yX4_becomeLike cX4_becomeLike 2 none { frames := 1, cells := 0, slots := 0, locals := 31 } D L σ [.ref (L.1 s), .ref (L.1 o)] (PV L (fun σ2 => σ2 = cpM (up (up σ s 0 (σ o 0)) s 1 (σ o 1)) (o + 1) (s + 1) 0 0 24)) := by
  refine Ct.of (by decide) (Nat.le_of_ble_eq_true rfl) ?_
  intro X hl hD hnl hX0 hQ
  have hX : Ok X cX4_becomeLike RX4 "becomeLike" { frames := 1, cells := 0, slots := 0, locals := 31 } none := hX0
  show At X L σ 0 0 [(0, .ref (L.1 s)), (1, .ref (L.1 o))] 0 []
  refine r_aload_n hX dX4_becomeLike_0 rfl ?_
  refine r_aload_n hX dX4_becomeLike_1 rfl ?_
  refine r_getIV hX dX4_becomeLike_2 fl_X4_11 ho.1 rfl (σ o 0) rfl ?_
  refine r_putI hX dX4_becomeLike_5 fl_X4_11 hs.1 rfl rfl rfl rfl ?_
  refine r_aload_n hX dX4_becomeLike_8 rfl ?_
  refine r_aload_n hX dX4_becomeLike_9 rfl ?_
  refine r_getIV hX dX4_becomeLike_10 fl_X4_15 ho.1 rfl (σ o 1) (by rw [up_n (by omega)]) ?_
  refine r_putI hX dX4_becomeLike_13 fl_X4_15 hs.1 rfl rfl rfl rfl ?_
  refine r_aload_n hX dX4_becomeLike_16 rfl ?_
  refine r_getR hX dX4_becomeLike_17 fl_X4_18 ho.1 rfl ho.2.2 ?_
  refine r_iconst hX (nI 0) dX4_becomeLike_20 rfl ?_
  refine r_aload_n hX dX4_becomeLike_21 rfl ?_
  refine r_getR hX dX4_becomeLike_22 fl_X4_18 hs.1 rfl hs.2.2 ?_
  refine r_iconst hX (nI 0) dX4_becomeLike_25 rfl ?_
  refine r_bipush hX (nI 24) dX4_becomeLike_26 rfl ?_
  refine r_acopy hX dX4_becomeLike_28 (inT_4 (List.mem_of_getElem? (i := 201) rfl) rfl) ho.2.1 hs.2.1 (by omega) (by omega) (by decide) (by decide) ⟨Nat.le_of_ble_eq_true rfl, Nat.le_of_ble_eq_true rfl⟩ (Nat.le_of_ble_eq_true rfl) ?_
  exact r_return hX hQ dX4_becomeLike_31 ⟨Nat.le_of_ble_eq_true rfl, Nat.le_of_ble_eq_true rfl⟩ (PV.mk rfl)

set_option maxHeartbeats 4000000 in
set_option maxRecDepth 100000 in
theorem c_X5_takeSheet1 {l : Launch} {D : Ds} {L : La}  (hN : NL D) (e o : Nat) (h0 : L.2.1 e = some (4, 0)) (ho : SA L o) (hoe : o + 1 < e) (hWl : Wl L) (σ : Me) (h4 : L.2.2 e 4 = some (e + 1)) (hSA : SA L (e + 1)) : Ct l yX5_takeSheet cX5_takeSheet 2 none { frames := 2, cells := 2, slots := 27, locals := 60 } D L σ [.ref (L.1 e), .ref (L.1 o)] (PN (TkP L σ e o)) := by
  refine Ct.of (by decide) (Nat.le_of_ble_eq_true rfl) ?_
  intro X hl hD hnl hX0 hQ
  have hX : Ok X cX5_takeSheet RX5 "takeSheet" { frames := 2, cells := 2, slots := 27, locals := 60 } none := hX0
  show At X L σ 0 0 [(0, .ref (L.1 e)), (1, .ref (L.1 o))] 0 []
  refine r_aload_n hX dX5_takeSheet_0 rfl ?_
  refine r_getR hX dX5_takeSheet_1 fl_X5_24 h0 rfl h4 ?_
  refine r_ifnonnull hX dX5_takeSheet_4 ?_
  refine r_aload_n hX dX5_takeSheet_18 rfl ?_
  refine r_getR hX dX5_takeSheet_19 fl_X5_24 h0 rfl h4 ?_
  refine r_aload_n hX dX5_takeSheet_22 rfl ?_
  refine r_callVV (As := [.ref (L.1 o)]) (rest := []) hX (c_X4_becomeLike σ (e + 1) (o) hSA ho (by omega)) dX5_takeSheet_23 cb_X5_31 hSA.1 rfl rfl ⟨Nat.le_of_ble_eq_true rfl, Nat.le_of_ble_eq_true rfl⟩ ⟨Nat.le_of_ble_eq_true rfl, Nat.le_of_ble_eq_true rfl⟩ (Nat.le_of_ble_eq_true rfl) (fun σ1 h2 => ?_)
  subst h2
  exact r_return hX hQ dX5_takeSheet_26 ⟨Nat.le_of_ble_eq_true rfl, Nat.le_of_ble_eq_true rfl⟩ (PN.mk ⟨LX.rf _ L, rfl, h0, h4, hSA, hWl, (by rw [cpM_o (by omega), up_s]), (fun i hi => by rw [cpM_in (by omega), show 0 + (i - 0) = i by omega, up_n (by omega), up_n (by omega)]), fun d i h1 h2 => by rw [cpM_o (by omega), up_n (by omega), up_n (by omega)]⟩)

set_option maxHeartbeats 4000000 in
set_option maxRecDepth 100000 in
theorem c_X5_takeSheet0 {l : Launch} {D : Ds} {L : La}  (hN : NL D) (e o : Nat) (h0 : L.2.1 e = some (4, 0)) (ho : SA L o) (hoe : o + 1 < e) (hWl : Wl L) (σ : Me) (h4 : L.2.2 e 4 = none) (hf1 : L.2.1 (e + 1) = none) (hf2 : L.2.1 (e + 1 + 1) = none) : Ct l yX5_takeSheet cX5_takeSheet 2 none { frames := 2, cells := 2, slots := 27, locals := 60 } D L σ [.ref (L.1 e), .ref (L.1 o)] (PN (TkP L σ e o)) := by
  refine Ct.of (by decide) (Nat.le_of_ble_eq_true rfl) ?_
  intro X hl hD hnl hX0 hQ
  have hX : Ok X cX5_takeSheet RX5 "takeSheet" { frames := 2, cells := 2, slots := 27, locals := 60 } none := hX0
  show At X L σ 0 0 [(0, .ref (L.1 e)), (1, .ref (L.1 o))] 0 []
  refine r_aload_n hX dX5_takeSheet_0 rfl ?_
  refine r_getN hX dX5_takeSheet_1 fl_X5_24 h0 rfl h4 ?_
  refine r_ifnonnullN hX dX5_takeSheet_4 ?_
  refine r_aload_n hX dX5_takeSheet_7 rfl ?_
  refine r_new hX (e + 1) (fun L' => [(0, .ref (L'.1 e)), (1, .ref (L'.1 o))]) (fun L' => [.ref (L'.1 e)]) dX5_takeSheet_8 nb_X5_28 hf1 hWl ⟨Nat.le_of_ble_eq_true rfl, Nat.le_of_ble_eq_true rfl⟩ (fun L' h => ⟨(by have e0 : L'.1 e = L.1 e := (h.1 _ (by omega)).1; have e1 : L'.1 o = L.1 o := (h.1 _ (by omega)).1; rw [e0, e1]), (by have e0 : L'.1 e = L.1 e := (h.1 _ (by omega)).1; rw [e0])⟩) (fun L1 hNw2 => ?_)
  have sh3 : L1.2.1 (e) = some (4, 0) := (hNw2.1 (e) (by omega)).2.1.trans h0
  have sh4 : L1.2.1 (o) = some (3, 0) := (hNw2.1 (o) (by omega)).2.1.trans ho.1
  have sh5 : L1.2.1 (o + 1) = some (10, 24) := (hNw2.1 (o + 1) (by omega)).2.1.trans ho.2.1
  have tg6 : L1.2.2 (e) 4 = none := ((hNw2.1 (e) (by omega)).2.2 4).trans h4
  have tg7 : L1.2.2 (o) 2 = some (o + 1) := ((hNw2.1 (o) (by omega)).2.2 2).trans ho.2.2
  have fr8 : L1.2.1 (e + 1 + 1) = none := (hNw2.1 (e + 1 + 1) (by omega)).2.1.trans hf2
  have wl10 : Wl L1 := Wl.nw hWl hf1 hNw2
  have sh11 : L1.2.1 (e + 1) = some (3, 0) := hNw2.2.1
  refine r_dup hX dX5_takeSheet_11 rfl ?_
  refine r_callIN (As := []) (rest := [.ref (L1.1 (e + 1)), .ref (L1.1 e)]) hX (hN (xs X) (by rw [← hD]; exact hX.2.2.2.2.2.1.2.2.1) _ (List.mem_of_getElem? (i := 7) rfl)) (c_X4_init (e + 1) sh11 fr8 wl10 (zr σ (e + 1))) dX5_takeSheet_12 cn_X4_init rfl rfl ⟨Nat.le_of_ble_eq_true rfl, Nat.le_of_ble_eq_true rfl⟩ ⟨Nat.le_of_ble_eq_true rfl, Nat.le_of_ble_eq_true rfl⟩ (Nat.le_of_ble_eq_true rfl) (fun v15 L12 σ13 h14 => ?_)
  obtain ⟨rfl, h14⟩ := h14
  have hRn := h14
  have sh16 : L12.2.1 (e) = some (4, 0) := (hRn.1 (e) (by unfold pOb; omega)).2.1.trans sh3
  have sh17 : L12.2.1 (o) = some (3, 0) := (hRn.1 (o) (by unfold pOb; omega)).2.1.trans sh4
  have sh18 : L12.2.1 (o + 1) = some (10, 24) := (hRn.1 (o + 1) (by unfold pOb; omega)).2.1.trans sh5
  have tg19 : L12.2.2 (e) 4 = none := ((hRn.1 (e) (by unfold pOb; omega)).2.2 4).trans tg6
  have tg20 : L12.2.2 (o) 2 = some (o + 1) := ((hRn.1 (o) (by unfold pOb; omega)).2.2 2).trans tg7
  refine At.to (ls' := [(0, .ref (L12.1 e)), (1, .ref (L12.1 o))]) (st' := [.ref (L12.1 (e + 1)), .ref (L12.1 e)]) ?_ (by rw [(show L12.1 (e) = L1.1 (e) from (hRn.1 (e) (by unfold pOb; omega)).1), (show L12.1 (o) = L1.1 (o) from (hRn.1 (o) (by unfold pOb; omega)).1)] <;> rfl) (by rw [(show L12.1 (e) = L1.1 (e) from (hRn.1 (e) (by unfold pOb; omega)).1), (show L12.1 (e + 1) = L1.1 (e + 1) from hRn.2.1)] <;> rfl) rfl
  refine r_putR hX (some (e + 1)) dX5_takeSheet_15 fl_X5_24 sh16 rfl (Or.inl rfl) ?_
  refine r_aload_n hX dX5_takeSheet_18 rfl ?_
  refine r_getR hX dX5_takeSheet_19 fl_X5_24 sh16 rfl ut_s ?_
  refine r_aload_n hX dX5_takeSheet_22 rfl ?_
  refine r_callVV (As := [.ref (L12.1 o)]) (rest := []) hX (c_X4_becomeLike σ13 (e + 1) (o) ⟨(hRn.2.2.1.trans sh11), hRn.2.2.2.1, ((ut_n (by omega)).trans hRn.2.2.2.2.1)⟩ ⟨sh17, sh18, ((ut_n (by omega)).trans tg20)⟩ (by omega)) dX5_takeSheet_23 cb_X5_31 (hRn.2.2.1.trans sh11) rfl rfl ⟨Nat.le_of_ble_eq_true rfl, Nat.le_of_ble_eq_true rfl⟩ ⟨Nat.le_of_ble_eq_true rfl, Nat.le_of_ble_eq_true rfl⟩ (Nat.le_of_ble_eq_true rfl) (fun σ22 h23 => ?_)
  subst h23
  exact r_return hX hQ dX5_takeSheet_26 ⟨Nat.le_of_ble_eq_true rfl, Nat.le_of_ble_eq_true rfl⟩ (PN.mk ⟨(LX.ut (LX.tr (LX.nw (LX.rf _ L) hNw2 (by unfold pTk; omega)) (LX.mono hRn.1 (fun d hd => by unfold pOb at hd; unfold pTk; omega))) (by unfold pTk; omega)), (hRn.1 e (by unfold pOb; omega)).1.trans (hNw2.1 e (by omega)).1, sh16, ut_s, ⟨(hRn.2.2.1.trans sh11), hRn.2.2.2.1, ((ut_n (by omega)).trans hRn.2.2.2.2.1)⟩, (Wl.ut hRn.2.2.2.2.2.1 (fun t ht => by cases ht; exact ⟨_, (hRn.2.2.1.trans sh11)⟩)), (by rw [cpM_o (by omega), up_s]; exact ((hRn.2.2.2.2.2.2.2.2 _ _ (by unfold pOb; omega)).trans (zr_n (by omega)))), (fun i hi => by rw [cpM_in (by omega), show 0 + (i - 0) = i by omega, up_n (by omega), up_n (by omega)]; exact ((hRn.2.2.2.2.2.2.2.2 _ _ (by unfold pOb; omega)).trans (zr_n (by omega)))), fun d i h1 h2 => by rw [cpM_o (by omega), up_n (by omega), up_n (by omega)]; exact ((hRn.2.2.2.2.2.2.2.2 _ _ (by unfold pOb; omega)).trans (zr_n (by omega)))⟩)

theorem c_X5_takeSheet {l : Launch} {D : Ds} {L : La} (hN : NL D) (e o : Nat) (h0 : L.2.1 e = some (4, 0)) (ho : SA L o) (hoe : o + 1 < e) (hWl : Wl L) (σ : Me) (hS : Sl1 L e) : Ct l yX5_takeSheet cX5_takeSheet 2 none { frames := 2, cells := 2, slots := 27, locals := 60 } D L σ [.ref (L.1 e), .ref (L.1 o)] (PN (TkP L σ e o)) := by
  rcases hS with ⟨a, b, c⟩ | ⟨a, b⟩
  · exact c_X5_takeSheet0 hN e o h0 ho hoe hWl σ a b c
  · exact c_X5_takeSheet1 hN e o h0 ho hoe hWl σ a b
