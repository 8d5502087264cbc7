set_option maxHeartbeats 4000000 in
set_option maxRecDepth 100000 in
theorem c_J7_copyOf_59c91 {l : Launch} {D : Ds} {L : La}  (e o n : Nat) (ho : L.2.1 o = some (10, 96)) (hoe : o ≠ e) (hn : n < 96) (hf : L.2.1 e = none) (hW : Wl L) (σ : Me) : Ct l yJ7_copyOf_59c91 cJ7_copyOf_59c91 3 (some (.array .int)) { frames := 1, cells := 1, slots := 96, locals := 31 } D L σ [.ref (L.1 o), .int (nI n)] (PNR (CpP L σ e o n)) := by
  refine Ct.of (by decide) (Nat.le_of_ble_eq_true rfl) ?_
  intro X hl hD hnl hX0 hQ
  have hX : Ok X cJ7_copyOf_59c91 RJ7 "copyOf" { frames := 1, cells := 1, slots := 96, locals := 31 } (some (.array .int)) := hX0
  have hN2 : 2 < xn X := by rw [hnl]; decide
  show At X L σ 0 0 [(0, .ref (L.1 o)), (1, .int (nI n))] 0 []
  refine r_iload_n hX dJ7_copyOf_59c91_0 rfl ?_
  refine r_aload_n hX dJ7_copyOf_59c91_1 rfl ?_
  refine r_alen hX dJ7_copyOf_59c91_2 ho (by decide) (by decide) ?_
  refine r_icmpN_ne hX dJ7_copyOf_59c91_3 (by omega) (by decide) (fun c1 => ?_) (fun c1 => absurd c1 (by omega))
  refine r_iload_n hX dJ7_copyOf_59c91_14 rfl ?_
  refine r_newa hX (e) 10 (fun L' => [(0, .ref (L'.1 o)), (1, .int (nI n))]) (fun L' => []) dJ7_copyOf_59c91_15 (inT_1 (List.mem_of_getElem? (i := 72) rfl) rfl) ⟨by decide, by decide, rfl, rfl, rfl⟩ ⟨by show n * 4 ≤ _; omega, by omega⟩ hf hW ⟨Nat.le_of_ble_eq_true rfl, by show 0 + n ≤ 96; omega⟩ (fun L' h => ⟨(by have e0 : L'.1 o = L.1 o := (h.1 _ (by omega)).1; rw [e0]), rfl⟩) (fun L2 hNw3 => ?_)
  refine At.more (mc' := 1) (ms' := 96) ?_ (by decide) (by omega)
  have sh4 : L2.2.1 (o) = some (10, 96) := (hNw3.1 (o) (by omega)).2.1.trans ho
  have wl6 : Wl L2 := Wl.nw hW hf hNw3
  have sh7 : L2.2.1 (e) = some (10, n) := hNw3.2.1
  refine r_astore_n hX [(0, .ref (L2.1 o)), (1, .int (nI n)), (2, .ref (L2.1 e))] dJ7_copyOf_59c91_17 hN2 rfl ?_
  refine r_aload_n hX dJ7_copyOf_59c91_18 rfl ?_
  refine r_iconst hX (nI 0) dJ7_copyOf_59c91_19 rfl ?_
  refine r_aload_n hX dJ7_copyOf_59c91_20 rfl ?_
  refine r_iconst hX (nI 0) dJ7_copyOf_59c91_21 rfl ?_
  refine r_aload_n hX dJ7_copyOf_59c91_22 rfl ?_
  refine r_alen hX dJ7_copyOf_59c91_23 sh4 (by decide) (by decide) ?_
  refine r_iload_n hX dJ7_copyOf_59c91_24 rfl ?_
  refine r_min hX dJ7_copyOf_59c91_25 cb_J7_304 ⟨Nat.le_of_ble_eq_true rfl, Nat.le_of_ble_eq_true rfl⟩ ⟨Nat.le_of_ble_eq_true rfl, Nat.le_of_ble_eq_true rfl⟩ (Nat.le_of_ble_eq_true rfl) (nI (min 96 n)) (miI_n (by decide) (by omega)) ?_
  refine r_acopy hX dJ7_copyOf_59c91_28 (inT_4 (List.mem_of_getElem? (i := 95) rfl) rfl) sh4 sh7 (by omega) (by omega) (by decide) (by omega) ⟨Nat.le_of_ble_eq_true rfl, Nat.le_of_ble_eq_true rfl⟩ (Nat.le_of_ble_eq_true rfl) ?_
  refine r_aload_n hX dJ7_copyOf_59c91_31 rfl ?_
  exact r_areturn hX hQ dJ7_copyOf_59c91_32 ⟨Nat.le_of_ble_eq_true rfl, Nat.le_of_ble_eq_true rfl⟩ (Or.inr ⟨_, rfl⟩) (Or.inr ⟨_, rfl⟩) (PNR.mk ⟨rfl, hNw3, fun k hk => (by rw [cpM_in (by omega), show 0 + (k - 0) = k by omega, zr_n hoe]), fun d i hd => (by rw [cpM_o hd, zr_n hd])⟩)

set_option maxHeartbeats 4000000 in
set_option maxRecDepth 100000 in
theorem c_X7_init {l : Launch} {D : Ds} {L : La}  (e m key lv : Nat) (h0 : L.2.1 e = some (6, 0)) (h1 : L.2.1 (e + 1) = some (10, m)) (h2 : L.2.1 (e + 2) = none) (hlv : lv ≤ 92) (hW : Wl L) (σ : Me) : Ct l yX7_init cX7_init 4 none { frames := 1, cells := 1, slots := 96, locals := 21 } D L σ [.ref (L.1 e), .int (nI key), .int (nI lv), .ref (L.1 (e + 1))] (PN (NwX L σ e key lv)) := by
  refine Ct.of (by decide) (Nat.le_of_ble_eq_true rfl) ?_
  intro X hl hD hnl hX0 hQ
  have hX : Ok X cX7_init RX7 "<init>" { frames := 1, cells := 1, slots := 96, locals := 21 } none := hX0
  show At X L σ 0 0 [(0, .ref (L.1 e)), (1, .int (nI key)), (2, .int (nI lv)), (3, .ref (L.1 (e + 1)))] 0 []
  refine r_aload_n hX dX7_init_0 rfl ?_
  refine r_oinit hX dX7_init_1 ⟨(inT_4 (List.mem_of_getElem? (i := 101) rfl) rfl), w_oi.1, w_oi.2⟩ ⟨Nat.le_of_ble_eq_true rfl, Nat.le_of_ble_eq_true rfl⟩ (Nat.le_of_ble_eq_true rfl) ?_
  refine r_aload_n hX dX7_init_4 rfl ?_
  refine r_iload_n hX dX7_init_5 rfl ?_
  refine r_putIF hX dX7_init_6 fl_X7_9 h0 rfl rfl ⟨rfl, rfl⟩ ⟨rfl, rfl⟩ ?_
  refine r_aload_n hX dX7_init_9 rfl ?_
  refine r_iload_n hX dX7_init_10 rfl ?_
  refine r_putIF hX dX7_init_11 fl_X7_15 h0 rfl rfl ⟨rfl, rfl⟩ ⟨rfl, rfl⟩ ?_
  refine r_aload_n hX dX7_init_14 rfl ?_
  refine r_aload_n hX dX7_init_15 rfl ?_
  refine r_putR hX (some (e + 1)) dX7_init_16 fl_X7_18 h0 rfl (Or.inr ⟨rfl, rfl⟩) ?_
  refine r_aload_n hX dX7_init_19 rfl ?_
  refine r_iconst hX (nI 1) dX7_init_20 rfl ?_
  refine r_iload_n hX dX7_init_21 rfl ?_
  refine r_max hX dX7_init_22 cb_X7_22 ⟨Nat.le_of_ble_eq_true rfl, Nat.le_of_ble_eq_true rfl⟩ ⟨Nat.le_of_ble_eq_true rfl, Nat.le_of_ble_eq_true rfl⟩ (Nat.le_of_ble_eq_true rfl) (nI (max 1 lv)) (mxI_n (by decide) (by omega)) ?_
  refine r_newa hX (e + 2) 10 (fun L' => [(0, .ref (L'.1 e)), (1, .int (nI key)), (2, .int (nI lv)), (3, .ref (L'.1 (e + 1)))]) (fun L' => [.ref (L'.1 e)]) dX7_init_25 (inT_1 (List.mem_of_getElem? (i := 72) rfl) rfl) ⟨by decide, by decide, rfl, rfl, rfl⟩ ⟨by show max 1 lv * 4 ≤ _; omega, by omega⟩ h2 (Wl.ut hW (fun t ht => by cases ht; exact ⟨_, h1⟩)) ⟨Nat.le_of_ble_eq_true rfl, by show 0 + max 1 lv ≤ 96; omega⟩ (fun L' h => ⟨(by have e0 : L'.1 e = L.1 e := (h.1 _ (by omega)).1; have e1 : L'.1 (e + 1) = L.1 (e + 1) := (h.1 _ (by omega)).1; rw [e0, e1]), (by have e0 : L'.1 e = L.1 e := (h.1 _ (by omega)).1; rw [e0])⟩) (fun L1 hNw2 => ?_)
  refine At.more (mc' := 1) (ms' := 96) ?_ (by decide) (by omega)
  have sh3 : L1.2.1 (e) = some (6, 0) := (hNw2.1 (e) (by omega)).2.1.trans h0
  have sh4 : L1.2.1 (e + 1) = some (10, m) := (hNw2.1 (e + 1) (by omega)).2.1.trans h1
  have tg5 : L1.2.2 (e) 2 = some (e + 1) := ((hNw2.1 (e) (by omega)).2.2 2).trans ut_s
  have ad7 : L1.1 (e) = L.1 (e) := (hNw2.1 (e) (by omega)).1.trans rfl
  have wl8 : Wl L1 := Wl.nw (Wl.ut hW (fun t ht => by cases ht; exact ⟨_, h1⟩)) h2 hNw2
  have sh9 : L1.2.1 (e + 2) = some (10, max 1 lv) := hNw2.2.1
  refine r_putR hX (some (e + 2)) dX7_init_27 fl_X7_28 sh3 rfl (Or.inr ⟨rfl, rfl⟩) ?_
  exact r_return hX hQ dX7_init_30 ⟨Nat.le_of_ble_eq_true rfl, Nat.le_of_ble_eq_true rfl⟩ (PN.mk ⟨(LX.ut (LX.nw (LX.ut (LX.rf _ L) (by omega)) hNw2 (by omega)) (by omega)), ad7, sh3, sh9, ((ut_n (by omega)).trans tg5), ut_s, (Wl.ut wl8 (fun t ht => by cases ht; exact ⟨_, sh9⟩)), (by show _ = _; rw [zr_n (by omega), up_n (by omega), up_s] <;> rfl), (by show _ = _; rw [zr_n (by omega), up_s] <;> rfl), fun d i h1 h2 => (by show _ = _; rw [zr_n (by omega), up_n (by omega), up_n (by omega)] <;> rfl)⟩)

set_option maxHeartbeats 4000000 in
set_option maxRecDepth 100000 in
theorem c_X3_addText {l : Launch} {D : Ds} {L : La}  (hA : CAt L) (σ : Me) (A : Al) (h0 : R0 σ 200 A) (hW : RW σ 200 A) (hTx : RX' L σ 200 A) (hV : Va A) (o : Nat) (t : Tx) (hk : t.1 ≤ 2) (ho : 1000 ≤ o ∧ o % 3 = 1) (hTA : TA L o t) (hTC : TC σ o t) : Ct l yX3_addText cX3_addText 3 (some .int) { frames := 0, cells := 0, slots := 0, locals := 0 } D L σ [.ref (L.1 (200 + 0)), .ref (L.1 o)] (PNI (fun r L2 σ2 => r = (if (aX A).length = 14 then (-1000000003) else nI (aX A).length) ∧ RC L2 σ2 200 (if (aX A).length = 14 then A else addX A t) ∧ AxP L σ o L2 σ2)) := by
  refine Ct.of (by decide) (Nat.le_of_ble_eq_true rfl) ?_
  intro X hl hD hnl hX0 hQ
  have hX : Ok X cX3_addText RX3 "addText" { frames := 0, cells := 0, slots := 0, locals := 0 } (some .int) := hX0
  have hN2 : 2 < xn X := by rw [hnl]; decide
  have hC := hA.2.2
  have hX14 := hV.2.2.2.1
  show At X L σ 0 0 [(0, .ref (L.1 (200 + 0))), (1, .ref (L.1 o))] 0 []
  refine r_aload_n hX dX3_addText_0 rfl ?_
  refine r_getIV hX dX3_addText_1 fl_X3_35 (hC.1 0 (2, 0) rfl) rfl (nI ((aX A).length)) h0.2.2.1 ?_
  refine r_istore_n hX [(0, .ref (L.1 (200 + 0))), (1, .ref (L.1 o)), (2, .int (nI ((aX A).length)))] dX3_addText_4 hN2 rfl ?_
  refine r_iload_n hX dX3_addText_5 rfl ?_
  refine r_bipush hX (nI 14) dX3_addText_6 rfl ?_
  refine r_icmpN_lt hX dX3_addText_8 (by omega) (by decide) (fun c1 => ?_) (fun c1 => ?_)
  · skip
    refine r_aload_n hX dX3_addText_14 rfl ?_
    refine r_getR hX dX3_addText_15 fl_X3_40 (hC.1 0 (2, 0) rfl) rfl (hC.2.1 0 7 5 rfl) ?_
    refine r_iload_n hX dX3_addText_18 rfl ?_
    refine r_aload_n hX dX3_addText_19 rfl ?_
    refine r_aast hX dX3_addText_20 (hC.1 5 (15, 14) rfl) ⟨by decide, by decide⟩ ⟨(by omega), by decide⟩ hTA.1 ⟨by decide, rfl⟩ ?_
    refine r_aload_n hX dX3_addText_21 rfl ?_
    refine r_getR hX dX3_addText_22 fl_X3_44 (hC.1 0 (2, 0) rfl) rfl ((ut_n (Or.inl (by decide))).trans (hC.2.1 0 8 6 rfl)) ?_
    refine r_aload_n hX dX3_addText_25 rfl ?_
    refine r_getIV hX dX3_addText_26 fl_X3_67 hTA.1 rfl (nI t.1) hTC.1 ?_
    refine r_iload_n hX dX3_addText_29 rfl ?_
    refine r_astN hX dX3_addText_30 (hC.1 6 (10, 3) rfl) (by decide) (by omega) ?_
    refine r_aload_n hX dX3_addText_31 rfl ?_
    refine r_dup hX dX3_addText_32 rfl ?_
    refine r_getIV hX dX3_addText_33 fl_X3_35 (hC.1 0 (2, 0) rfl) rfl (nI ((aX A).length)) (by rw [up_n (by omega)]; exact h0.2.2.1) ?_
    refine r_iconst hX (nI 1) dX3_addText_36 rfl ?_
    refine r_iaddN hX dX3_addText_37 ?_
    refine r_putI hX dX3_addText_38 fl_X3_35 (hC.1 0 (2, 0) rfl) rfl rfl rfl rfl ?_
    refine r_iload_n hX dX3_addText_41 rfl ?_
    exact r_ireturn hX hQ dX3_addText_42 ⟨Nat.le_of_ble_eq_true rfl, Nat.le_of_ble_eq_true rfl⟩ (PNI.mk ⟨by rw [if_neg (by omega)], by rw [if_neg (by omega)]; exact rc_addX ⟨h0, hW, hTx⟩ (by omega) hk ho hTA hTC rfl rfl, AxP.add⟩)
  · skip
    refine r_ldc hX dX3_addText_11 ko_X3_66 ?_
    exact r_ireturn hX hQ dX3_addText_13 ⟨Nat.le_of_ble_eq_true rfl, Nat.le_of_ble_eq_true rfl⟩ (PNI.mk ⟨by rw [if_pos (by omega)], by rw [if_pos (by omega)]; exact ⟨h0, hW, hTx⟩, AxP.rf⟩)
