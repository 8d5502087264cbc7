def clS : List (Nat × Nat × Nat) := [(132, 4, 0), (129, 4, 0), (126, 4, 0), (123, 4, 0), (120, 4, 0), (117, 10, 24), (116, 3, 0), (115, 10, 24), (114, 3, 0), (113, 10, 24), (112, 3, 0), (111, 10, 24), (110, 3, 0), (109, 10, 60), (108, 14, 5), (107, 13, 4), (106, 10, 96), (105, 1, 0), (104, 11, 96), (103, 5, 0), (102, 10, 12), (101, 0, 0), (200, 2, 0), (201, 10, 6), (202, 10, 6), (203, 10, 12), (204, 7, 0), (205, 15, 14), (206, 10, 3), (207, 10, 6), (208, 10, 24), (209, 10, 24), (210, 10, 24), (211, 10, 24), (212, 10, 24), (213, 10, 24), (100, 8, 0)]
def clT : List (Nat × Nat × Option Nat) := [(108, 4, some 132), (132, 4, none), (108, 3, some 129), (129, 4, none), (108, 2, some 126), (126, 4, none), (108, 1, some 123), (123, 4, none), (108, 0, some 120), (120, 4, none), (107, 3, some 116), (116, 2, some 117), (107, 2, some 114), (114, 2, some 115), (107, 1, some 112), (112, 2, some 113), (107, 0, some 110), (110, 2, some 111), (100, 9, none), (100, 8, none), (100, 6, some 109), (100, 5, some 108), (100, 4, some 107), (100, 3, some 105), (105, 0, some 103), (105, 1, some 106), (100, 2, some 103), (103, 0, some 104), (100, 1, some 101), (101, 0, some 102), (100, 0, some 200), (200, 1, some 201), (200, 2, some 202), (200, 4, some 203), (200, 5, some 204), (200, 7, some 205), (200, 8, some 206), (200, 10, some 207), (200, 11, some 208), (204, 1, some 209), (204, 2, some 210), (204, 3, some 211), (204, 4, some 212), (204, 5, some 213), (205, 0, none), (205, 1, none), (205, 2, none), (205, 3, none), (205, 4, none), (205, 5, none), (205, 6, none), (205, 7, none), (205, 8, none), (205, 9, none), (205, 10, none), (205, 11, none), (205, 12, none), (205, 13, none)]
def NwF (L L' : La) (σ' : Me) : Prop := Fx L' clS clT ∧ L'.1 100 = L.1 100 ∧ R0 σ' 200 A0 ∧ RW σ' 200 A0 ∧ σ' 103 1 = 0 ∧ σ' 100 7 = nI 0 ∧ ((σ' 110 0 = (-1) ∧ σ' 110 1 = 0 ∧ ∀ i, σ' 111 i = 0) ∧ (σ' 112 0 = (-1) ∧ σ' 112 1 = 0 ∧ ∀ i, σ' 113 i = 0) ∧ (σ' 114 0 = (-1) ∧ σ' 114 1 = 0 ∧ ∀ i, σ' 115 i = 0) ∧ (σ' 116 0 = (-1) ∧ σ' 116 1 = 0 ∧ ∀ i, σ' 117 i = 0)) ∧ σ' 120 0 = nI 0 ∧ σ' 123 0 = nI 0 ∧ σ' 126 0 = nI 0 ∧ σ' 129 0 = nI 0 ∧ σ' 132 0 = nI 0

set_option maxHeartbeats 4000000 in
set_option maxRecDepth 100000 in
theorem c_X9_init {l : Launch} {D : Ds} {L : La}  (hN : NL D) (hAO : AO D) (σ : Me) (hF : Fx L [(100, 8, 0)] []) : Ct l yX9_init cX9_init 2 none { frames := 3, cells := 36, slots := 693, locals := 60 } D L σ [.ref (L.1 100)] (PN (NwF L)) := by
  refine Ct.of (by decide) (Nat.le_of_ble_eq_true rfl) ?_
  intro X hl hD hnl hX0 hQ
  have hX : Ok X cX9_init RX9 "<init>" { frames := 3, cells := 36, slots := 693, locals := 60 } none := hX0
  have hN1 : 1 < xn X := by rw [hnl]; decide
  have hNx : NL (xD X) := by rw [hD]; exact hN
  have hAO2 : AO (xD X) := by rw [hD]; exact hAO
  show At X L σ 0 0 [(0, .ref (L.1 100))] 0 []
  refine r_aload_n hX dX9_init_0 rfl ?_
  refine r_oinit hX dX9_init_1 ⟨(inT_1 (List.mem_of_getElem? (i := 26) rfl) rfl), w_oi.1, w_oi.2⟩ ⟨Nat.le_of_ble_eq_true rfl, Nat.le_of_ble_eq_true rfl⟩ (Nat.le_of_ble_eq_true rfl) ?_
  refine r_aload_n hX dX9_init_4 rfl ?_
  refine r_new hX (200) (fun L' => [(0, .ref (L'.1 100))]) (fun L' => [.ref (L'.1 100)]) dX9_init_5 nb_X9_7 (hF.f 200 rfl) hF.1 ⟨Nat.le_of_ble_eq_true rfl, Nat.le_of_ble_eq_true rfl⟩ (fun L' h => ⟨(by have e0 : L'.1 100 = L.1 100 := (h.1 _ (by decide)).1; rw [e0] <;> rfl), (by have e0 : L'.1 100 = L.1 100 := (h.1 _ (by decide)).1; rw [e0] <;> rfl)⟩) (fun L1 hNw2 => ?_)
  have hF3 := hF.nw hNw2 rfl rfl
  refine r_dup hX dX9_init_8 rfl ?_
  refine r_callIN (As := []) (rest := [.ref (L1.1 200), .ref (L1.1 100)]) hX (hN (xs X) (by rw [← hD]; exact hX.2.2.2.2.2.1.2.2.1) _ (List.mem_of_getElem? (i := 0) rfl)) (c_X3_init hNx hAO2 200 (by decide) (hF3.s 200 2 0 (List.mem_of_getElem? (i := 0) rfl)) (fun i h1 h2 => hF3.f _ (by simp only [List.all_cons, List.all_nil, Bool.and_eq_true, bne_iff_ne, ne_eq, and_true]; omega)) hF3.1 (zr σ 200)) dX9_init_9 cn_X3_init rfl rfl ⟨Nat.le_of_ble_eq_true rfl, Nat.le_of_ble_eq_true rfl⟩ ⟨Nat.le_of_ble_eq_true rfl, Nat.le_of_ble_eq_true rfl⟩ (Nat.le_of_ble_eq_true rfl) (fun v7 L4 σ5 h6 => ?_)
  obtain ⟨rfl, h6⟩ := h6
  have hF8 := Fx.room hF3 h6
  refine At.to (ls' := [(0, .ref (L4.1 100))]) (st' := [.ref (L4.1 200), .ref (L4.1 100)]) ?_ (by rw [(show L4.1 100 = L1.1 100 from (h6.1 100 (by unfold pRm; decide)).1)] <;> rfl) (by rw [(show L4.1 100 = L1.1 100 from (h6.1 100 (by unfold pRm; decide)).1), (show L4.1 200 = L1.1 200 from h6.2.1)] <;> rfl) rfl
  refine r_putR hX (some (200)) dX9_init_12 fl_X9_10 (hF8.s 100 8 0 (List.mem_of_getElem? (i := 14) rfl)) rfl (Or.inr ⟨rfl, rfl⟩) ?_
  have hF9 := hF8.ut (c := 100) (j := 0) (v := (some 200)) (fun t ht => by cases ht; exact ⟨_, (hF8.s 200 2 0 (List.mem_of_getElem? (i := 0) rfl))⟩) rfl
  refine r_aload_n hX dX9_init_15 rfl ?_
  refine r_new hX (101) (fun L' => [(0, .ref (L'.1 100))]) (fun L' => [.ref (L'.1 100)]) dX9_init_16 nb_X9_16 (hF9.f 101 rfl) hF9.1 ⟨Nat.le_of_ble_eq_true rfl, Nat.le_of_ble_eq_true rfl⟩ (fun L' h => ⟨(by have e0 : L'.1 100 = L4.1 100 := (h.1 _ (by decide)).1; rw [e0] <;> rfl), (by have e0 : L'.1 100 = L4.1 100 := (h.1 _ (by decide)).1; rw [e0] <;> rfl)⟩) (fun L10 hNw11 => ?_)
  have hF12 := hF9.nw hNw11 rfl rfl
  refine r_dup hX dX9_init_19 rfl ?_
  refine r_callIN (As := []) (rest := [.ref (L10.1 101), .ref (L10.1 100)]) hX (hN (xs X) (by rw [← hD]; exact hX.2.2.2.2.2.1.2.2.1) _ (List.mem_of_getElem? (i := 1) rfl)) (c_X0_init 101 (hF12.s 101 0 0 (List.mem_of_getElem? (i := 0) rfl)) (hF12.f _ rfl) hF12.1 (zr σ5 101)) dX9_init_20 cn_X0_init rfl rfl ⟨Nat.le_of_ble_eq_true rfl, Nat.le_of_ble_eq_true rfl⟩ ⟨Nat.le_of_ble_eq_true rfl, Nat.le_of_ble_eq_true rfl⟩ (Nat.le_of_ble_eq_true rfl) (fun v16 L13 σ14 h15 => ?_)
  obtain ⟨rfl, h15⟩ := h15
  have hF17 := hF12.obj h15 ⟨rfl, rfl⟩ ⟨rfl, rfl⟩
  refine At.to (ls' := [(0, .ref (L13.1 100))]) (st' := [.ref (L13.1 101), .ref (L13.1 100)]) ?_ (by rw [(show L13.1 100 = L10.1 100 from (h15.1 100 (by unfold pOb; decide)).1)] <;> rfl) (by rw [(show L13.1 100 = L10.1 100 from (h15.1 100 (by unfold pOb; decide)).1), (show L13.1 101 = L10.1 101 from h15.2.1)] <;> rfl) rfl
  refine r_putR hX (some (101)) dX9_init_23 fl_X9_19 (hF17.s 100 8 0 (List.mem_of_getElem? (i := 16) rfl)) rfl (Or.inr ⟨rfl, rfl⟩) ?_
  have hF18 := hF17.ut (c := 100) (j := 1) (v := (some 101)) (fun t ht => by cases ht; exact ⟨_, (hF17.s 101 0 0 (List.mem_of_getElem? (i := 1) rfl))⟩) rfl
  refine r_aload_n hX dX9_init_26 rfl ?_
  refine r_new hX (103) (fun L' => [(0, .ref (L'.1 100))]) (fun L' => [.ref (L'.1 100)]) dX9_init_27 nb_X9_23 (hF18.f 103 rfl) hF18.1 ⟨Nat.le_of_ble_eq_true rfl, Nat.le_of_ble_eq_true rfl⟩ (fun L' h => ⟨(by have e0 : L'.1 100 = L13.1 100 := (h.1 _ (by decide)).1; rw [e0] <;> rfl), (by have e0 : L'.1 100 = L13.1 100 := (h.1 _ (by decide)).1; rw [e0] <;> rfl)⟩) (fun L19 hNw20 => ?_)
  have hF21 := hF18.nw hNw20 rfl rfl
  refine r_dup hX dX9_init_30 rfl ?_
  refine r_callIN (As := []) (rest := [.ref (L19.1 103), .ref (L19.1 100)]) hX (hN (xs X) (by rw [← hD]; exact hX.2.2.2.2.2.1.2.2.1) _ (List.mem_of_getElem? (i := 2) rfl)) (c_X6_init 103 (hF21.s 103 5 0 (List.mem_of_getElem? (i := 0) rfl)) (hF21.f _ rfl) hF21.1 (zr σ14 103)) dX9_init_31 cn_X6_init rfl rfl ⟨Nat.le_of_ble_eq_true rfl, Nat.le_of_ble_eq_true rfl⟩ ⟨Nat.le_of_ble_eq_true rfl, Nat.le_of_ble_eq_true rfl⟩ (Nat.le_of_ble_eq_true rfl) (fun v25 L22 σ23 h24 => ?_)
  obtain ⟨rfl, h24⟩ := h24
  have hF26 := hF21.obj h24 ⟨rfl, rfl⟩ ⟨rfl, rfl⟩
  refine At.to (ls' := [(0, .ref (L22.1 100))]) (st' := [.ref (L22.1 103), .ref (L22.1 100)]) ?_ (by rw [(show L22.1 100 = L19.1 100 from (h24.1 100 (by unfold pOb; decide)).1)] <;> rfl) (by rw [(show L22.1 100 = L19.1 100 from (h24.1 100 (by unfold pOb; decide)).1), (show L22.1 103 = L19.1 103 from h24.2.1)] <;> rfl) rfl
  refine r_putR hX (some (103)) dX9_init_34 fl_X9_26 (hF26.s 100 8 0 (List.mem_of_getElem? (i := 18) rfl)) rfl (Or.inr ⟨rfl, rfl⟩) ?_
  have hF27 := hF26.ut (c := 100) (j := 2) (v := (some 103)) (fun t ht => by cases ht; exact ⟨_, (hF26.s 103 5 0 (List.mem_of_getElem? (i := 1) rfl))⟩) rfl
  refine r_aload_n hX dX9_init_37 rfl ?_
  refine r_new hX (105) (fun L' => [(0, .ref (L'.1 100))]) (fun L' => [.ref (L'.1 100)]) dX9_init_38 nb_X9_30 (hF27.f 105 rfl) hF27.1 ⟨Nat.le_of_ble_eq_true rfl, Nat.le_of_ble_eq_true rfl⟩ (fun L' h => ⟨(by have e0 : L'.1 100 = L22.1 100 := (h.1 _ (by decide)).1; rw [e0] <;> rfl), (by have e0 : L'.1 100 = L22.1 100 := (h.1 _ (by decide)).1; rw [e0] <;> rfl)⟩) (fun L28 hNw29 => ?_)
  have hF30 := hF27.nw hNw29 rfl rfl
  refine r_dup hX dX9_init_41 rfl ?_
  refine r_aload_n hX dX9_init_42 rfl ?_
  refine r_getR hX dX9_init_43 fl_X9_26 (hF30.s 100 8 0 (List.mem_of_getElem? (i := 19) rfl)) rfl (hF30.t 100 2 103 (List.mem_of_getElem? (i := 0) rfl)) ?_
  refine r_callI (As := [.ref (L28.1 103)]) (rest := [.ref (L28.1 105), .ref (L28.1 100)]) hX (c_X2_init 105 (hF30.s 105 1 0 (List.mem_of_getElem? (i := 0) rfl)) (hF30.f _ rfl) hF30.1 (zr σ23 105) 103 (hF30.s 103 5 0 (List.mem_of_getElem? (i := 2) rfl)) (by decide)) dX9_init_46 cb_X9_32.1 cb_X9_32.2 rfl rfl ⟨Nat.le_of_ble_eq_true rfl, Nat.le_of_ble_eq_true rfl⟩ ⟨Nat.le_of_ble_eq_true rfl, Nat.le_of_ble_eq_true rfl⟩ (Nat.le_of_ble_eq_true rfl) (fun v34 L31 σ32 h33 => ?_)
  obtain ⟨rfl, h33⟩ := h33
  have hF35 := (hF30.obj h33.1 ⟨rfl, rfl⟩ ⟨rfl, rfl⟩).add 105 0 (some 103) h33.2
  refine At.to (ls' := [(0, .ref (L31.1 100))]) (st' := [.ref (L31.1 105), .ref (L31.1 100)]) ?_ (by rw [(show L31.1 100 = L28.1 100 from (h33.1.1 100 (by unfold pOb; decide)).1)] <;> rfl) (by rw [(show L31.1 100 = L28.1 100 from (h33.1.1 100 (by unfold pOb; decide)).1), (show L31.1 105 = L28.1 105 from h33.1.2.1)] <;> rfl) rfl
  refine r_putR hX (some (105)) dX9_init_49 fl_X9_35 (hF35.s 100 8 0 (List.mem_of_getElem? (i := 20) rfl)) rfl (Or.inr ⟨rfl, rfl⟩) ?_
  have hF36 := hF35.ut (c := 100) (j := 3) (v := (some 105)) (fun t ht => by cases ht; exact ⟨_, (hF35.s 105 1 0 (List.mem_of_getElem? (i := 1) rfl))⟩) rfl
  refine r_aload_n hX dX9_init_52 rfl ?_
  refine r_iconst hX (nI 4) dX9_init_53 rfl ?_
  refine r_anew hX (107) 13 (fun L' => [(0, .ref (L'.1 100))]) (fun L' => [.ref (L'.1 100)]) dX9_init_54 (inT_1 (List.mem_of_getElem? (i := 186) rfl) rfl) (hAO (xs X) (by rw [← hD]; exact hX.2.2.2.2.2.1.2.2.1)).1 ⟨by decide, by decide, rfl⟩ ⟨by decide, by decide⟩ (hF36.f 107 rfl) hF36.1 ⟨Nat.le_of_ble_eq_true rfl, Nat.le_of_ble_eq_true rfl⟩ (fun L' h => ⟨(by have e0 : L'.1 100 = L31.1 100 := (h.1 _ (by decide)).1; rw [e0] <;> rfl), (by have e0 : L'.1 100 = L31.1 100 := (h.1 _ (by decide)).1; rw [e0] <;> rfl)⟩) (fun L37 hNw38 => ?_)
  have hF39 := hF36.nw hNw38 rfl rfl
  refine r_putR hX (some (107)) dX9_init_57 fl_X9_41 (hF39.s 100 8 0 (List.mem_of_getElem? (i := 21) rfl)) rfl (Or.inr ⟨rfl, rfl⟩) ?_
  have hF40 := hF39.ut (c := 100) (j := 4) (v := (some 107)) (fun t ht => by cases ht; exact ⟨_, (hF39.s 107 13 4 (List.mem_of_getElem? (i := 0) rfl))⟩) rfl
  refine r_aload_n hX dX9_init_60 rfl ?_
  refine r_iconst hX (nI 5) dX9_init_61 rfl ?_
  refine r_anew hX (108) 14 (fun L' => [(0, .ref (L'.1 100))]) (fun L' => [.ref (L'.1 100)]) dX9_init_62 (inT_1 (List.mem_of_getElem? (i := 188) rfl) rfl) (hAO (xs X) (by rw [← hD]; exact hX.2.2.2.2.2.1.2.2.1)).2.1 ⟨by decide, by decide, rfl⟩ ⟨by decide, by decide⟩ (hF40.f 108 rfl) hF40.1 ⟨Nat.le_of_ble_eq_true rfl, Nat.le_of_ble_eq_true rfl⟩ (fun L' h => ⟨(by have e0 : L'.1 100 = L37.1 100 := (h.1 _ (by decide)).1; rw [e0] <;> rfl), (by have e0 : L'.1 100 = L37.1 100 := (h.1 _ (by decide)).1; rw [e0] <;> rfl)⟩) (fun L41 hNw42 => ?_)
  have hF43 := hF40.nw hNw42 rfl rfl
  refine r_putR hX (some (108)) dX9_init_65 fl_X9_47 (hF43.s 100 8 0 (List.mem_of_getElem? (i := 22) rfl)) rfl (Or.inr ⟨rfl, rfl⟩) ?_
  have hF44 := hF43.ut (c := 100) (j := 5) (v := (some 108)) (fun t ht => by cases ht; exact ⟨_, (hF43.s 108 14 5 (List.mem_of_getElem? (i := 0) rfl))⟩) rfl
  refine r_aload_n hX dX9_init_68 rfl ?_
  refine r_bipush hX (nI 60) dX9_init_69 rfl ?_
  refine r_newa hX (109) 10 (fun L' => [(0, .ref (L'.1 100))]) (fun L' => [.ref (L'.1 100)]) dX9_init_71 (inT_1 (List.mem_of_getElem? (i := 72) rfl) rfl) ⟨by decide, by decide, rfl, rfl, rfl⟩ ⟨by decide, by decide⟩ (hF44.f 109 rfl) hF44.1 ⟨Nat.le_of_ble_eq_true rfl, Nat.le_of_ble_eq_true rfl⟩ (fun L' h => ⟨(by have e0 : L'.1 100 = L41.1 100 := (h.1 _ (by decide)).1; rw [e0] <;> rfl), (by have e0 : L'.1 100 = L41.1 100 := (h.1 _ (by decide)).1; rw [e0] <;> rfl)⟩) (fun L45 hNw46 => ?_)
  have hF47 := hF44.nw hNw46 rfl rfl
  refine r_putR hX (some (109)) dX9_init_73 fl_X9_51 (hF47.s 100 8 0 (List.mem_of_getElem? (i := 23) rfl)) rfl (Or.inr ⟨rfl, rfl⟩) ?_
  have hF48 := hF47.ut (c := 100) (j := 6) (v := (some 109)) (fun t ht => by cases ht; exact ⟨_, (hF47.s 109 10 60 (List.mem_of_getElem? (i := 0) rfl))⟩) rfl
  refine r_aload_n hX dX9_init_76 rfl ?_
  refine r_iconst hX (nI 0) dX9_init_77 rfl ?_
  refine r_putI hX dX9_init_78 fl_X9_55 (hF48.s 100 8 0 (List.mem_of_getElem? (i := 23) rfl)) rfl rfl rfl rfl ?_
  refine r_aload_n hX dX9_init_81 rfl ?_
  refine r_null hX dX9_init_82 ?_
  refine r_putR hX none dX9_init_83 fl_X9_59 (hF48.s 100 8 0 (List.mem_of_getElem? (i := 23) rfl)) rfl (Or.inl rfl) ?_
  have hF49 := hF48.ut (c := 100) (j := 8) (v := none) (fun t ht => by cases ht) rfl
  refine r_aload_n hX dX9_init_86 rfl ?_
  refine r_null hX dX9_init_87 ?_
  refine r_putR hX none dX9_init_88 fl_X9_62 (hF49.s 100 8 0 (List.mem_of_getElem? (i := 23) rfl)) rfl (Or.inl rfl) ?_
  have hF50 := hF49.ut (c := 100) (j := 9) (v := none) (fun t ht => by cases ht) rfl
  refine r_iconst hX (nI 0) dX9_init_91 rfl ?_
  refine r_istore_n hX [(0, .ref (L45.1 100)), (1, .int (nI 0))] dX9_init_92 hN1 rfl ?_
  refine r_iload_n hX dX9_init_93 rfl ?_
  refine r_iconst hX (nI 4) dX9_init_94 rfl ?_
  refine r_icmpN_ge hX dX9_init_95 (by decide) (by decide) (fun c51 => absurd c51 (by decide)) (fun c51 => ?_)
  refine r_aload_n hX dX9_init_98 rfl ?_
  refine r_getR hX dX9_init_99 fl_X9_41 (hF50.s 100 8 0 (List.mem_of_getElem? (i := 23) rfl)) rfl (hF50.t 100 4 107 (List.mem_of_getElem? (i := 4) rfl)) ?_
  refine r_iload_n hX dX9_init_102 rfl ?_
  refine r_new hX (110) (fun L' => [(0, .ref (L'.1 100)), (1, .int (nI 0))]) (fun L' => [.int (nI 0), .ref (L'.1 107)]) dX9_init_103 nb_X9_39 (hF50.f 110 rfl) hF50.1 ⟨Nat.le_of_ble_eq_true rfl, Nat.le_of_ble_eq_true rfl⟩ (fun L' h => ⟨(by have e0 : L'.1 100 = L45.1 100 := (h.1 _ (by decide)).1; rw [e0] <;> rfl), (by have e0 : L'.1 107 = L45.1 107 := (h.1 _ (by decide)).1; rw [e0] <;> rfl)⟩) (fun L52 hNw53 => ?_)
  have hF54 := hF50.nw hNw53 rfl rfl
  refine r_dup hX dX9_init_106 rfl ?_
  refine r_callIN (As := []) (rest := [.ref (L52.1 110), .int (nI 0), .ref (L52.1 107)]) hX (hN (xs X) (by rw [← hD]; exact hX.2.2.2.2.2.1.2.2.1) _ (List.mem_of_getElem? (i := 3) rfl)) (c_X4_init 110 (hF54.s 110 3 0 (List.mem_of_getElem? (i := 0) rfl)) (hF54.f _ rfl) hF54.1 (zr (up (zr (zr (zr σ32 107) 108) 109) 100 7 (nI 0)) 110)) dX9_init_107 cn_X4_init rfl rfl ⟨Nat.le_of_ble_eq_true rfl, Nat.le_of_ble_eq_true rfl⟩ ⟨Nat.le_of_ble_eq_true rfl, Nat.le_of_ble_eq_true rfl⟩ (Nat.le_of_ble_eq_true rfl) (fun v58 L55 σ56 h57 => ?_)
  obtain ⟨rfl, h57⟩ := h57
  have hF59 := hF54.obj h57 ⟨rfl, rfl⟩ ⟨rfl, rfl⟩
  refine At.to (ls' := [(0, .ref (L55.1 100)), (1, .int (nI 0))]) (st' := [.ref (L55.1 110), .int (nI 0), .ref (L55.1 107)]) ?_ (by rw [(show L55.1 100 = L52.1 100 from (h57.1 100 (by unfold pOb; decide)).1)] <;> rfl) (by rw [(show L55.1 110 = L52.1 110 from h57.2.1), (show L55.1 107 = L52.1 107 from (h57.1 107 (by unfold pOb; decide)).1)] <;> rfl) rfl
  refine r_aast hX dX9_init_110 (hF59.s 107 13 4 (List.mem_of_getElem? (i := 4) rfl)) ⟨by decide, by decide⟩ ⟨by decide, by decide⟩ (hF59.s 110 3 0 (List.mem_of_getElem? (i := 1) rfl)) ⟨by decide, rfl⟩ ?_
  have hF60 := hF59.ut (c := 107) (j := 0) (v := (some 110)) (fun t ht => by cases ht; exact ⟨_, (hF59.s 110 3 0 (List.mem_of_getElem? (i := 1) rfl))⟩) rfl
  refine r_iincN (n := 1) hX [(0, .ref (L55.1 100)), (1, .int (nI 1))] dX9_init_111 rfl hN1 rfl ?_
  refine r_goto hX dX9_init_114 ?_
  refine r_iload_n hX dX9_init_93 rfl ?_
  refine r_iconst hX (nI 4) dX9_init_94 rfl ?_
  refine r_icmpN_ge hX dX9_init_95 (by decide) (by decide) (fun c61 => absurd c61 (by decide)) (fun c61 => ?_)
  refine r_aload_n hX dX9_init_98 rfl ?_
  refine r_getR hX dX9_init_99 fl_X9_41 (hF60.s 100 8 0 (List.mem_of_getElem? (i := 25) rfl)) rfl (hF60.t 100 4 107 (List.mem_of_getElem? (i := 6) rfl)) ?_
  refine r_iload_n hX dX9_init_102 rfl ?_
  refine r_new hX (112) (fun L' => [(0, .ref (L'.1 100)), (1, .int (nI 1))]) (fun L' => [.int (nI 1), .ref (L'.1 107)]) dX9_init_103 nb_X9_39 (hF60.f 112 rfl) hF60.1 ⟨Nat.le_of_ble_eq_true rfl, Nat.le_of_ble_eq_true rfl⟩ (fun L' h => ⟨(by have e0 : L'.1 100 = L55.1 100 := (h.1 _ (by decide)).1; rw [e0] <;> rfl), (by have e0 : L'.1 107 = L55.1 107 := (h.1 _ (by decide)).1; rw [e0] <;> rfl)⟩) (fun L62 hNw63 => ?_)
  have hF64 := hF60.nw hNw63 rfl rfl
  refine r_dup hX dX9_init_106 rfl ?_
  refine r_callIN (As := []) (rest := [.ref (L62.1 112), .int (nI 1), .ref (L62.1 107)]) hX (hN (xs X) (by rw [← hD]; exact hX.2.2.2.2.2.1.2.2.1) _ (List.mem_of_getElem? (i := 3) rfl)) (c_X4_init 112 (hF64.s 112 3 0 (List.mem_of_getElem? (i := 0) rfl)) (hF64.f _ rfl) hF64.1 (zr σ56 112)) dX9_init_107 cn_X4_init rfl rfl ⟨Nat.le_of_ble_eq_true rfl, Nat.le_of_ble_eq_true rfl⟩ ⟨Nat.le_of_ble_eq_true rfl, Nat.le_of_ble_eq_true rfl⟩ (Nat.le_of_ble_eq_true rfl) (fun v68 L65 σ66 h67 => ?_)
  obtain ⟨rfl, h67⟩ := h67
  have hF69 := hF64.obj h67 ⟨rfl, rfl⟩ ⟨rfl, rfl⟩
  refine At.to (ls' := [(0, .ref (L65.1 100)), (1, .int (nI 1))]) (st' := [.ref (L65.1 112), .int (nI 1), .ref (L65.1 107)]) ?_ (by rw [(show L65.1 100 = L62.1 100 from (h67.1 100 (by unfold pOb; decide)).1)] <;> rfl) (by rw [(show L65.1 112 = L62.1 112 from h67.2.1), (show L65.1 107 = L62.1 107 from (h67.1 107 (by unfold pOb; decide)).1)] <;> rfl) rfl
  refine r_aast hX dX9_init_110 (hF69.s 107 13 4 (List.mem_of_getElem? (i := 6) rfl)) ⟨by decide, by decide⟩ ⟨by decide, by decide⟩ (hF69.s 112 3 0 (List.mem_of_getElem? (i := 1) rfl)) ⟨by decide, rfl⟩ ?_
  have hF70 := hF69.ut (c := 107) (j := 1) (v := (some 112)) (fun t ht => by cases ht; exact ⟨_, (hF69.s 112 3 0 (List.mem_of_getElem? (i := 1) rfl))⟩) rfl
  refine r_iincN (n := 1) hX [(0, .ref (L65.1 100)), (1, .int (nI 2))] dX9_init_111 rfl hN1 rfl ?_
  refine r_goto hX dX9_init_114 ?_
  refine r_iload_n hX dX9_init_93 rfl ?_
  refine r_iconst hX (nI 4) dX9_init_94 rfl ?_
  refine r_icmpN_ge hX dX9_init_95 (by decide) (by decide) (fun c71 => absurd c71 (by decide)) (fun c71 => ?_)
  refine r_aload_n hX dX9_init_98 rfl ?_
  refine r_getR hX dX9_init_99 fl_X9_41 (hF70.s 100 8 0 (List.mem_of_getElem? (i := 27) rfl)) rfl (hF70.t 100 4 107 (List.mem_of_getElem? (i := 8) rfl)) ?_
  refine r_iload_n hX dX9_init_102 rfl ?_
  refine r_new hX (114) (fun L' => [(0, .ref (L'.1 100)), (1, .int (nI 2))]) (fun L' => [.int (nI 2), .ref (L'.1 107)]) dX9_init_103 nb_X9_39 (hF70.f 114 rfl) hF70.1 ⟨Nat.le_of_ble_eq_true rfl, Nat.le_of_ble_eq_true rfl⟩ (fun L' h => ⟨(by have e0 : L'.1 100 = L65.1 100 := (h.1 _ (by decide)).1; rw [e0] <;> rfl), (by have e0 : L'.1 107 = L65.1 107 := (h.1 _ (by decide)).1; rw [e0] <;> rfl)⟩) (fun L72 hNw73 => ?_)
  have hF74 := hF70.nw hNw73 rfl rfl
  refine r_dup hX dX9_init_106 rfl ?_
  refine r_callIN (As := []) (rest := [.ref (L72.1 114), .int (nI 2), .ref (L72.1 107)]) hX (hN (xs X) (by rw [← hD]; exact hX.2.2.2.2.2.1.2.2.1) _ (List.mem_of_getElem? (i := 3) rfl)) (c_X4_init 114 (hF74.s 114 3 0 (List.mem_of_getElem? (i := 0) rfl)) (hF74.f _ rfl) hF74.1 (zr σ66 114)) dX9_init_107 cn_X4_init rfl rfl ⟨Nat.le_of_ble_eq_true rfl, Nat.le_of_ble_eq_true rfl⟩ ⟨Nat.le_of_ble_eq_true rfl, Nat.le_of_ble_eq_true rfl⟩ (Nat.le_of_ble_eq_true rfl) (fun v78 L75 σ76 h77 => ?_)
  obtain ⟨rfl, h77⟩ := h77
  have hF79 := hF74.obj h77 ⟨rfl, rfl⟩ ⟨rfl, rfl⟩
  refine At.to (ls' := [(0, .ref (L75.1 100)), (1, .int (nI 2))]) (st' := [.ref (L75.1 114), .int (nI 2), .ref (L75.1 107)]) ?_ (by rw [(show L75.1 100 = L72.1 100 from (h77.1 100 (by unfold pOb; decide)).1)] <;> rfl) (by rw [(show L75.1 114 = L72.1 114 from h77.2.1), (show L75.1 107 = L72.1 107 from (h77.1 107 (by unfold pOb; decide)).1)] <;> rfl) rfl
  refine r_aast hX dX9_init_110 (hF79.s 107 13 4 (List.mem_of_getElem? (i := 8) rfl)) ⟨by decide, by decide⟩ ⟨by decide, by decide⟩ (hF79.s 114 3 0 (List.mem_of_getElem? (i := 1) rfl)) ⟨by decide, rfl⟩ ?_
  have hF80 := hF79.ut (c := 107) (j := 2) (v := (some 114)) (fun t ht => by cases ht; exact ⟨_, (hF79.s 114 3 0 (List.mem_of_getElem? (i := 1) rfl))⟩) rfl
  refine r_iincN (n := 1) hX [(0, .ref (L75.1 100)), (1, .int (nI 3))] dX9_init_111 rfl hN1 rfl ?_
  refine r_goto hX dX9_init_114 ?_
  refine r_iload_n hX dX9_init_93 rfl ?_
  refine r_iconst hX (nI 4) dX9_init_94 rfl ?_
  refine r_icmpN_ge hX dX9_init_95 (by decide) (by decide) (fun c81 => absurd c81 (by decide)) (fun c81 => ?_)
  refine r_aload_n hX dX9_init_98 rfl ?_
  refine r_getR hX dX9_init_99 fl_X9_41 (hF80.s 100 8 0 (List.mem_of_getElem? (i := 29) rfl)) rfl (hF80.t 100 4 107 (List.mem_of_getElem? (i := 10) rfl)) ?_
  refine r_iload_n hX dX9_init_102 rfl ?_
  refine r_new hX (116) (fun L' => [(0, .ref (L'.1 100)), (1, .int (nI 3))]) (fun L' => [.int (nI 3), .ref (L'.1 107)]) dX9_init_103 nb_X9_39 (hF80.f 116 rfl) hF80.1 ⟨Nat.le_of_ble_eq_true rfl, Nat.le_of_ble_eq_true rfl⟩ (fun L' h => ⟨(by have e0 : L'.1 100 = L75.1 100 := (h.1 _ (by decide)).1; rw [e0] <;> rfl), (by have e0 : L'.1 107 = L75.1 107 := (h.1 _ (by decide)).1; rw [e0] <;> rfl)⟩) (fun L82 hNw83 => ?_)
  have hF84 := hF80.nw hNw83 rfl rfl
  refine r_dup hX dX9_init_106 rfl ?_
  refine r_callIN (As := []) (rest := [.ref (L82.1 116), .int (nI 3), .ref (L82.1 107)]) hX (hN (xs X) (by rw [← hD]; exact hX.2.2.2.2.2.1.2.2.1) _ (List.mem_of_getElem? (i := 3) rfl)) (c_X4_init 116 (hF84.s 116 3 0 (List.mem_of_getElem? (i := 0) rfl)) (hF84.f _ rfl) hF84.1 (zr σ76 116)) dX9_init_107 cn_X4_init rfl rfl ⟨Nat.le_of_ble_eq_true rfl, Nat.le_of_ble_eq_true rfl⟩ ⟨Nat.le_of_ble_eq_true rfl, Nat.le_of_ble_eq_true rfl⟩ (Nat.le_of_ble_eq_true rfl) (fun v88 L85 σ86 h87 => ?_)
  obtain ⟨rfl, h87⟩ := h87
  have hF89 := hF84.obj h87 ⟨rfl, rfl⟩ ⟨rfl, rfl⟩
  refine At.to (ls' := [(0, .ref (L85.1 100)), (1, .int (nI 3))]) (st' := [.ref (L85.1 116), .int (nI 3), .ref (L85.1 107)]) ?_ (by rw [(show L85.1 100 = L82.1 100 from (h87.1 100 (by unfold pOb; decide)).1)] <;> rfl) (by rw [(show L85.1 116 = L82.1 116 from h87.2.1), (show L85.1 107 = L82.1 107 from (h87.1 107 (by unfold pOb; decide)).1)] <;> rfl) rfl
  refine r_aast hX dX9_init_110 (hF89.s 107 13 4 (List.mem_of_getElem? (i := 10) rfl)) ⟨by decide, by decide⟩ ⟨by decide, by decide⟩ (hF89.s 116 3 0 (List.mem_of_getElem? (i := 1) rfl)) ⟨by decide, rfl⟩ ?_
  have hF90 := hF89.ut (c := 107) (j := 3) (v := (some 116)) (fun t ht => by cases ht; exact ⟨_, (hF89.s 116 3 0 (List.mem_of_getElem? (i := 1) rfl))⟩) rfl
  refine r_iincN (n := 1) hX [(0, .ref (L85.1 100)), (1, .int (nI 4))] dX9_init_111 rfl hN1 rfl ?_
  refine r_goto hX dX9_init_114 ?_
  refine r_iload_n hX dX9_init_93 rfl ?_
  refine r_iconst hX (nI 4) dX9_init_94 rfl ?_
  refine r_icmpN_ge hX dX9_init_95 (by decide) (by decide) (fun c91 => ?_) (fun c91 => absurd c91 (by decide))
  refine r_iconst hX (nI 0) dX9_init_117 rfl ?_
  refine r_istore_n hX [(0, .ref (L85.1 100)), (1, .int (nI 0))] dX9_init_118 hN1 rfl ?_
  refine r_iload_n hX dX9_init_119 rfl ?_
  refine r_iconst hX (nI 5) dX9_init_120 rfl ?_
  refine r_icmpN_ge hX dX9_init_121 (by decide) (by decide) (fun c92 => absurd c92 (by decide)) (fun c92 => ?_)
  refine r_aload_n hX dX9_init_124 rfl ?_
  refine r_getR hX dX9_init_125 fl_X9_47 (hF90.s 100 8 0 (List.mem_of_getElem? (i := 31) rfl)) rfl (hF90.t 100 5 108 (List.mem_of_getElem? (i := 11) rfl)) ?_
  refine r_iload_n hX dX9_init_128 rfl ?_
  refine r_new hX (120) (fun L' => [(0, .ref (L'.1 100)), (1, .int (nI 0))]) (fun L' => [.int (nI 0), .ref (L'.1 108)]) dX9_init_129 nb_X9_45 (hF90.f 120 rfl) hF90.1 ⟨Nat.le_of_ble_eq_true rfl, Nat.le_of_ble_eq_true rfl⟩ (fun L' h => ⟨(by have e0 : L'.1 100 = L85.1 100 := (h.1 _ (by decide)).1; rw [e0] <;> rfl), (by have e0 : L'.1 108 = L85.1 108 := (h.1 _ (by decide)).1; rw [e0] <;> rfl)⟩) (fun L93 hNw94 => ?_)
  have hF95 := hF90.nw hNw94 rfl rfl
  refine r_dup hX dX9_init_132 rfl ?_
  refine r_callIN (As := []) (rest := [.ref (L93.1 120), .int (nI 0), .ref (L93.1 108)]) hX (hN (xs X) (by rw [← hD]; exact hX.2.2.2.2.2.1.2.2.1) _ (List.mem_of_getElem? (i := 4) rfl)) (c_X5_init 120 (hF95.s 120 4 0 (List.mem_of_getElem? (i := 0) rfl)) hF95.1 (zr σ86 120)) dX9_init_133 cn_X5_init rfl rfl ⟨Nat.le_of_ble_eq_true rfl, Nat.le_of_ble_eq_true rfl⟩ ⟨Nat.le_of_ble_eq_true rfl, Nat.le_of_ble_eq_true rfl⟩ (Nat.le_of_ble_eq_true rfl) (fun v99 L96 σ97 h98 => ?_)
  obtain ⟨rfl, h98⟩ := h98
  have hF100 := hF95.slot h98.1 h98.2.1 h98.2.2.1 h98.2.2.2.1 rfl rfl
  refine At.to (ls' := [(0, .ref (L96.1 100)), (1, .int (nI 0))]) (st' := [.ref (L96.1 120), .int (nI 0), .ref (L96.1 108)]) ?_ (by rw [(show L96.1 100 = L93.1 100 from (h98.1 100 (by unfold pSl; decide)).1)] <;> rfl) (by rw [(show L96.1 120 = L93.1 120 from h98.2.2.2.2.2.2), (show L96.1 108 = L93.1 108 from (h98.1 108 (by unfold pSl; decide)).1)] <;> rfl) rfl
  refine r_aast hX dX9_init_136 (hF100.s 108 14 5 (List.mem_of_getElem? (i := 10) rfl)) ⟨by decide, by decide⟩ ⟨by decide, by decide⟩ (hF100.s 120 4 0 (List.mem_of_getElem? (i := 0) rfl)) ⟨by decide, rfl⟩ ?_
  have hF101 := hF100.ut (c := 108) (j := 0) (v := (some 120)) (fun t ht => by cases ht; exact ⟨_, (hF100.s 120 4 0 (List.mem_of_getElem? (i := 0) rfl))⟩) rfl
  refine r_iincN (n := 1) hX [(0, .ref (L96.1 100)), (1, .int (nI 1))] dX9_init_137 rfl hN1 rfl ?_
  refine r_goto hX dX9_init_140 ?_
  refine r_iload_n hX dX9_init_119 rfl ?_
  refine r_iconst hX (nI 5) dX9_init_120 rfl ?_
  refine r_icmpN_ge hX dX9_init_121 (by decide) (by decide) (fun c102 => absurd c102 (by decide)) (fun c102 => ?_)
  refine r_aload_n hX dX9_init_124 rfl ?_
  refine r_getR hX dX9_init_125 fl_X9_47 (hF101.s 100 8 0 (List.mem_of_getElem? (i := 32) rfl)) rfl (hF101.t 100 5 108 (List.mem_of_getElem? (i := 13) rfl)) ?_
  refine r_iload_n hX dX9_init_128 rfl ?_
  refine r_new hX (123) (fun L' => [(0, .ref (L'.1 100)), (1, .int (nI 1))]) (fun L' => [.int (nI 1), .ref (L'.1 108)]) dX9_init_129 nb_X9_45 (hF101.f 123 rfl) hF101.1 ⟨Nat.le_of_ble_eq_true rfl, Nat.le_of_ble_eq_true rfl⟩ (fun L' h => ⟨(by have e0 : L'.1 100 = L96.1 100 := (h.1 _ (by decide)).1; rw [e0] <;> rfl), (by have e0 : L'.1 108 = L96.1 108 := (h.1 _ (by decide)).1; rw [e0] <;> rfl)⟩) (fun L103 hNw104 => ?_)
  have hF105 := hF101.nw hNw104 rfl rfl
  refine r_dup hX dX9_init_132 rfl ?_
  refine r_callIN (As := []) (rest := [.ref (L103.1 123), .int (nI 1), .ref (L103.1 108)]) hX (hN (xs X) (by rw [← hD]; exact hX.2.2.2.2.2.1.2.2.1) _ (List.mem_of_getElem? (i := 4) rfl)) (c_X5_init 123 (hF105.s 123 4 0 (List.mem_of_getElem? (i := 0) rfl)) hF105.1 (zr σ97 123)) dX9_init_133 cn_X5_init rfl rfl ⟨Nat.le_of_ble_eq_true rfl, Nat.le_of_ble_eq_true rfl⟩ ⟨Nat.le_of_ble_eq_true rfl, Nat.le_of_ble_eq_true rfl⟩ (Nat.le_of_ble_eq_true rfl) (fun v109 L106 σ107 h108 => ?_)
  obtain ⟨rfl, h108⟩ := h108
  have hF110 := hF105.slot h108.1 h108.2.1 h108.2.2.1 h108.2.2.2.1 rfl rfl
  refine At.to (ls' := [(0, .ref (L106.1 100)), (1, .int (nI 1))]) (st' := [.ref (L106.1 123), .int (nI 1), .ref (L106.1 108)]) ?_ (by rw [(show L106.1 100 = L103.1 100 from (h108.1 100 (by unfold pSl; decide)).1)] <;> rfl) (by rw [(show L106.1 123 = L103.1 123 from h108.2.2.2.2.2.2), (show L106.1 108 = L103.1 108 from (h108.1 108 (by unfold pSl; decide)).1)] <;> rfl) rfl
  refine r_aast hX dX9_init_136 (hF110.s 108 14 5 (List.mem_of_getElem? (i := 11) rfl)) ⟨by decide, by decide⟩ ⟨by decide, by decide⟩ (hF110.s 123 4 0 (List.mem_of_getElem? (i := 0) rfl)) ⟨by decide, rfl⟩ ?_
  have hF111 := hF110.ut (c := 108) (j := 1) (v := (some 123)) (fun t ht => by cases ht; exact ⟨_, (hF110.s 123 4 0 (List.mem_of_getElem? (i := 0) rfl))⟩) rfl
  refine r_iincN (n := 1) hX [(0, .ref (L106.1 100)), (1, .int (nI 2))] dX9_init_137 rfl hN1 rfl ?_
  refine r_goto hX dX9_init_140 ?_
  refine r_iload_n hX dX9_init_119 rfl ?_
  refine r_iconst hX (nI 5) dX9_init_120 rfl ?_
  refine r_icmpN_ge hX dX9_init_121 (by decide) (by decide) (fun c112 => absurd c112 (by decide)) (fun c112 => ?_)
  refine r_aload_n hX dX9_init_124 rfl ?_
  refine r_getR hX dX9_init_125 fl_X9_47 (hF111.s 100 8 0 (List.mem_of_getElem? (i := 33) rfl)) rfl (hF111.t 100 5 108 (List.mem_of_getElem? (i := 15) rfl)) ?_
  refine r_iload_n hX dX9_init_128 rfl ?_
  refine r_new hX (126) (fun L' => [(0, .ref (L'.1 100)), (1, .int (nI 2))]) (fun L' => [.int (nI 2), .ref (L'.1 108)]) dX9_init_129 nb_X9_45 (hF111.f 126 rfl) hF111.1 ⟨Nat.le_of_ble_eq_true rfl, Nat.le_of_ble_eq_true rfl⟩ (fun L' h => ⟨(by have e0 : L'.1 100 = L106.1 100 := (h.1 _ (by decide)).1; rw [e0] <;> rfl), (by have e0 : L'.1 108 = L106.1 108 := (h.1 _ (by decide)).1; rw [e0] <;> rfl)⟩) (fun L113 hNw114 => ?_)
  have hF115 := hF111.nw hNw114 rfl rfl
  refine r_dup hX dX9_init_132 rfl ?_
  refine r_callIN (As := []) (rest := [.ref (L113.1 126), .int (nI 2), .ref (L113.1 108)]) hX (hN (xs X) (by rw [← hD]; exact hX.2.2.2.2.2.1.2.2.1) _ (List.mem_of_getElem? (i := 4) rfl)) (c_X5_init 126 (hF115.s 126 4 0 (List.mem_of_getElem? (i := 0) rfl)) hF115.1 (zr σ107 126)) dX9_init_133 cn_X5_init rfl rfl ⟨Nat.le_of_ble_eq_true rfl, Nat.le_of_ble_eq_true rfl⟩ ⟨Nat.le_of_ble_eq_true rfl, Nat.le_of_ble_eq_true rfl⟩ (Nat.le_of_ble_eq_true rfl) (fun v119 L116 σ117 h118 => ?_)
  obtain ⟨rfl, h118⟩ := h118
  have hF120 := hF115.slot h118.1 h118.2.1 h118.2.2.1 h118.2.2.2.1 rfl rfl
  refine At.to (ls' := [(0, .ref (L116.1 100)), (1, .int (nI 2))]) (st' := [.ref (L116.1 126), .int (nI 2), .ref (L116.1 108)]) ?_ (by rw [(show L116.1 100 = L113.1 100 from (h118.1 100 (by unfold pSl; decide)).1)] <;> rfl) (by rw [(show L116.1 126 = L113.1 126 from h118.2.2.2.2.2.2), (show L116.1 108 = L113.1 108 from (h118.1 108 (by unfold pSl; decide)).1)] <;> rfl) rfl
  refine r_aast hX dX9_init_136 (hF120.s 108 14 5 (List.mem_of_getElem? (i := 12) rfl)) ⟨by decide, by decide⟩ ⟨by decide, by decide⟩ (hF120.s 126 4 0 (List.mem_of_getElem? (i := 0) rfl)) ⟨by decide, rfl⟩ ?_
  have hF121 := hF120.ut (c := 108) (j := 2) (v := (some 126)) (fun t ht => by cases ht; exact ⟨_, (hF120.s 126 4 0 (List.mem_of_getElem? (i := 0) rfl))⟩) rfl
  refine r_iincN (n := 1) hX [(0, .ref (L116.1 100)), (1, .int (nI 3))] dX9_init_137 rfl hN1 rfl ?_
  refine r_goto hX dX9_init_140 ?_
  refine r_iload_n hX dX9_init_119 rfl ?_
  refine r_iconst hX (nI 5) dX9_init_120 rfl ?_
  refine r_icmpN_ge hX dX9_init_121 (by decide) (by decide) (fun c122 => absurd c122 (by decide)) (fun c122 => ?_)
  refine r_aload_n hX dX9_init_124 rfl ?_
  refine r_getR hX dX9_init_125 fl_X9_47 (hF121.s 100 8 0 (List.mem_of_getElem? (i := 34) rfl)) rfl (hF121.t 100 5 108 (List.mem_of_getElem? (i := 17) rfl)) ?_
  refine r_iload_n hX dX9_init_128 rfl ?_
  refine r_new hX (129) (fun L' => [(0, .ref (L'.1 100)), (1, .int (nI 3))]) (fun L' => [.int (nI 3), .ref (L'.1 108)]) dX9_init_129 nb_X9_45 (hF121.f 129 rfl) hF121.1 ⟨Nat.le_of_ble_eq_true rfl, Nat.le_of_ble_eq_true rfl⟩ (fun L' h => ⟨(by have e0 : L'.1 100 = L116.1 100 := (h.1 _ (by decide)).1; rw [e0] <;> rfl), (by have e0 : L'.1 108 = L116.1 108 := (h.1 _ (by decide)).1; rw [e0] <;> rfl)⟩) (fun L123 hNw124 => ?_)
  have hF125 := hF121.nw hNw124 rfl rfl
  refine r_dup hX dX9_init_132 rfl ?_
  refine r_callIN (As := []) (rest := [.ref (L123.1 129), .int (nI 3), .ref (L123.1 108)]) hX (hN (xs X) (by rw [← hD]; exact hX.2.2.2.2.2.1.2.2.1) _ (List.mem_of_getElem? (i := 4) rfl)) (c_X5_init 129 (hF125.s 129 4 0 (List.mem_of_getElem? (i := 0) rfl)) hF125.1 (zr σ117 129)) dX9_init_133 cn_X5_init rfl rfl ⟨Nat.le_of_ble_eq_true rfl, Nat.le_of_ble_eq_true rfl⟩ ⟨Nat.le_of_ble_eq_true rfl, Nat.le_of_ble_eq_true rfl⟩ (Nat.le_of_ble_eq_true rfl) (fun v129 L126 σ127 h128 => ?_)
  obtain ⟨rfl, h128⟩ := h128
  have hF130 := hF125.slot h128.1 h128.2.1 h128.2.2.1 h128.2.2.2.1 rfl rfl
  refine At.to (ls' := [(0, .ref (L126.1 100)), (1, .int (nI 3))]) (st' := [.ref (L126.1 129), .int (nI 3), .ref (L126.1 108)]) ?_ (by rw [(show L126.1 100 = L123.1 100 from (h128.1 100 (by unfold pSl; decide)).1)] <;> rfl) (by rw [(show L126.1 129 = L123.1 129 from h128.2.2.2.2.2.2), (show L126.1 108 = L123.1 108 from (h128.1 108 (by unfold pSl; decide)).1)] <;> rfl) rfl
  refine r_aast hX dX9_init_136 (hF130.s 108 14 5 (List.mem_of_getElem? (i := 13) rfl)) ⟨by decide, by decide⟩ ⟨by decide, by decide⟩ (hF130.s 129 4 0 (List.mem_of_getElem? (i := 0) rfl)) ⟨by decide, rfl⟩ ?_
  have hF131 := hF130.ut (c := 108) (j := 3) (v := (some 129)) (fun t ht => by cases ht; exact ⟨_, (hF130.s 129 4 0 (List.mem_of_getElem? (i := 0) rfl))⟩) rfl
  refine r_iincN (n := 1) hX [(0, .ref (L126.1 100)), (1, .int (nI 4))] dX9_init_137 rfl hN1 rfl ?_
  refine r_goto hX dX9_init_140 ?_
  refine r_iload_n hX dX9_init_119 rfl ?_
  refine r_iconst hX (nI 5) dX9_init_120 rfl ?_
  refine r_icmpN_ge hX dX9_init_121 (by decide) (by decide) (fun c132 => absurd c132 (by decide)) (fun c132 => ?_)
  refine r_aload_n hX dX9_init_124 rfl ?_
  refine r_getR hX dX9_init_125 fl_X9_47 (hF131.s 100 8 0 (List.mem_of_getElem? (i := 35) rfl)) rfl (hF131.t 100 5 108 (List.mem_of_getElem? (i := 19) rfl)) ?_
  refine r_iload_n hX dX9_init_128 rfl ?_
  refine r_new hX (132) (fun L' => [(0, .ref (L'.1 100)), (1, .int (nI 4))]) (fun L' => [.int (nI 4), .ref (L'.1 108)]) dX9_init_129 nb_X9_45 (hF131.f 132 rfl) hF131.1 ⟨Nat.le_of_ble_eq_true rfl, Nat.le_of_ble_eq_true rfl⟩ (fun L' h => ⟨(by have e0 : L'.1 100 = L126.1 100 := (h.1 _ (by decide)).1; rw [e0] <;> rfl), (by have e0 : L'.1 108 = L126.1 108 := (h.1 _ (by decide)).1; rw [e0] <;> rfl)⟩) (fun L133 hNw134 => ?_)
  have hF135 := hF131.nw hNw134 rfl rfl
  refine r_dup hX dX9_init_132 rfl ?_
  refine r_callIN (As := []) (rest := [.ref (L133.1 132), .int (nI 4), .ref (L133.1 108)]) hX (hN (xs X) (by rw [← hD]; exact hX.2.2.2.2.2.1.2.2.1) _ (List.mem_of_getElem? (i := 4) rfl)) (c_X5_init 132 (hF135.s 132 4 0 (List.mem_of_getElem? (i := 0) rfl)) hF135.1 (zr σ127 132)) dX9_init_133 cn_X5_init rfl rfl ⟨Nat.le_of_ble_eq_true rfl, Nat.le_of_ble_eq_true rfl⟩ ⟨Nat.le_of_ble_eq_true rfl, Nat.le_of_ble_eq_true rfl⟩ (Nat.le_of_ble_eq_true rfl) (fun v139 L136 σ137 h138 => ?_)
  obtain ⟨rfl, h138⟩ := h138
  have hF140 := hF135.slot h138.1 h138.2.1 h138.2.2.1 h138.2.2.2.1 rfl rfl
  refine At.to (ls' := [(0, .ref (L136.1 100)), (1, .int (nI 4))]) (st' := [.ref (L136.1 132), .int (nI 4), .ref (L136.1 108)]) ?_ (by rw [(show L136.1 100 = L133.1 100 from (h138.1 100 (by unfold pSl; decide)).1)] <;> rfl) (by rw [(show L136.1 132 = L133.1 132 from h138.2.2.2.2.2.2), (show L136.1 108 = L133.1 108 from (h138.1 108 (by unfold pSl; decide)).1)] <;> rfl) rfl
  refine r_aast hX dX9_init_136 (hF140.s 108 14 5 (List.mem_of_getElem? (i := 14) rfl)) ⟨by decide, by decide⟩ ⟨by decide, by decide⟩ (hF140.s 132 4 0 (List.mem_of_getElem? (i := 0) rfl)) ⟨by decide, rfl⟩ ?_
  have hF141 := hF140.ut (c := 108) (j := 4) (v := (some 132)) (fun t ht => by cases ht; exact ⟨_, (hF140.s 132 4 0 (List.mem_of_getElem? (i := 0) rfl))⟩) rfl
  refine r_iincN (n := 1) hX [(0, .ref (L136.1 100)), (1, .int (nI 5))] dX9_init_137 rfl hN1 rfl ?_
  refine r_goto hX dX9_init_140 ?_
  refine r_iload_n hX dX9_init_119 rfl ?_
  refine r_iconst hX (nI 5) dX9_init_120 rfl ?_
  refine r_icmpN_ge hX dX9_init_121 (by decide) (by decide) (fun c142 => ?_) (fun c142 => absurd c142 (by decide))
  exact r_return hX hQ dX9_init_143 ⟨Nat.le_of_ble_eq_true rfl, Nat.le_of_ble_eq_true rfl⟩ (PN.mk ⟨hF141, ((h138.1 100 (by unfold pSl; decide)).1).trans (((hNw134.1 100 (by decide)).1).trans (((h128.1 100 (by unfold pSl; decide)).1).trans (((hNw124.1 100 (by decide)).1).trans (((h118.1 100 (by unfold pSl; decide)).1).trans (((hNw114.1 100 (by decide)).1).trans (((h108.1 100 (by unfold pSl; decide)).1).trans (((hNw104.1 100 (by decide)).1).trans (((h98.1 100 (by unfold pSl; decide)).1).trans (((hNw94.1 100 (by decide)).1).trans (((h87.1 100 (by unfold pOb; decide)).1).trans (((hNw83.1 100 (by decide)).1).trans (((h77.1 100 (by unfold pOb; decide)).1).trans (((hNw73.1 100 (by decide)).1).trans (((h67.1 100 (by unfold pOb; decide)).1).trans (((hNw63.1 100 (by decide)).1).trans (((h57.1 100 (by unfold pOb; decide)).1).trans (((hNw53.1 100 (by decide)).1).trans (((hNw46.1 100 (by decide)).1).trans (((hNw42.1 100 (by decide)).1).trans (((hNw38.1 100 (by decide)).1).trans (((h33.1.1 100 (by unfold pOb; decide)).1).trans (((hNw29.1 100 (by decide)).1).trans (((h24.1 100 (by unfold pOb; decide)).1).trans (((hNw20.1 100 (by decide)).1).trans (((h15.1 100 (by unfold pOb; decide)).1).trans (((hNw11.1 100 (by decide)).1).trans (((h6.1 100 (by unfold pRm; decide)).1).trans (((hNw2.1 100 (by decide)).1).trans (rfl))))))))))))))))))))))))))))), h6.2.2.2.2.2.1.kept (fun c i hc => by rw [h138.2.2.2.2.2.1 _ _ (by unfold pSl; omega), zr_n (by omega), h128.2.2.2.2.2.1 _ _ (by unfold pSl; omega), zr_n (by omega), h118.2.2.2.2.2.1 _ _ (by unfold pSl; omega), zr_n (by omega), h108.2.2.2.2.2.1 _ _ (by unfold pSl; omega), zr_n (by omega), h98.2.2.2.2.2.1 _ _ (by unfold pSl; omega), zr_n (by omega), h87.2.2.2.2.2.2.2.2 _ _ (by unfold pOb; omega), zr_n (by omega), h77.2.2.2.2.2.2.2.2 _ _ (by unfold pOb; omega), zr_n (by omega), h67.2.2.2.2.2.2.2.2 _ _ (by unfold pOb; omega), zr_n (by omega), h57.2.2.2.2.2.2.2.2 _ _ (by unfold pOb; omega), zr_n (by omega), up_n (by omega), zr_n (by omega), zr_n (by omega), zr_n (by omega), h33.1.2.2.2.2.2.2.2.2 _ _ (by unfold pOb; omega), zr_n (by omega), h24.2.2.2.2.2.2.2.2 _ _ (by unfold pOb; omega), zr_n (by omega), h15.2.2.2.2.2.2.2.2 _ _ (by unfold pOb; omega), zr_n (by omega)]), h6.2.2.2.2.2.2.1.kept (fun c i hc => by rw [h138.2.2.2.2.2.1 _ _ (by unfold pSl; omega), zr_n (by omega), h128.2.2.2.2.2.1 _ _ (by unfold pSl; omega), zr_n (by omega), h118.2.2.2.2.2.1 _ _ (by unfold pSl; omega), zr_n (by omega), h108.2.2.2.2.2.1 _ _ (by unfold pSl; omega), zr_n (by omega), h98.2.2.2.2.2.1 _ _ (by unfold pSl; omega), zr_n (by omega), h87.2.2.2.2.2.2.2.2 _ _ (by unfold pOb; omega), zr_n (by omega), h77.2.2.2.2.2.2.2.2 _ _ (by unfold pOb; omega), zr_n (by omega), h67.2.2.2.2.2.2.2.2 _ _ (by unfold pOb; omega), zr_n (by omega), h57.2.2.2.2.2.2.2.2 _ _ (by unfold pOb; omega), zr_n (by omega), up_n (by omega), zr_n (by omega), zr_n (by omega), zr_n (by omega), h33.1.2.2.2.2.2.2.2.2 _ _ (by unfold pOb; omega), zr_n (by omega), h24.2.2.2.2.2.2.2.2 _ _ (by unfold pOb; omega), zr_n (by omega), h15.2.2.2.2.2.2.2.2 _ _ (by unfold pOb; omega), zr_n (by omega)]), (by show _ = _; rw [h138.2.2.2.2.2.1 _ _ (by unfold pSl; decide), zr_n (by omega), h128.2.2.2.2.2.1 _ _ (by unfold pSl; decide), zr_n (by omega), h118.2.2.2.2.2.1 _ _ (by unfold pSl; decide), zr_n (by omega), h108.2.2.2.2.2.1 _ _ (by unfold pSl; decide), zr_n (by omega), h98.2.2.2.2.2.1 _ _ (by unfold pSl; decide), zr_n (by omega), h87.2.2.2.2.2.2.2.2 _ _ (by unfold pOb; decide), zr_n (by omega), h77.2.2.2.2.2.2.2.2 _ _ (by unfold pOb; decide), zr_n (by omega), h67.2.2.2.2.2.2.2.2 _ _ (by unfold pOb; decide), zr_n (by omega), h57.2.2.2.2.2.2.2.2 _ _ (by unfold pOb; decide), zr_n (by omega), up_n (by omega), zr_n (by omega), zr_n (by omega), zr_n (by omega), h33.1.2.2.2.2.2.2.2.2 _ _ (by unfold pOb; decide), zr_n (by omega), h24.2.2.2.2.2.2.2.1] <;> rfl), (by show _ = _; rw [h138.2.2.2.2.2.1 _ _ (by unfold pSl; decide), zr_n (by omega), h128.2.2.2.2.2.1 _ _ (by unfold pSl; decide), zr_n (by omega), h118.2.2.2.2.2.1 _ _ (by unfold pSl; decide), zr_n (by omega), h108.2.2.2.2.2.1 _ _ (by unfold pSl; decide), zr_n (by omega), h98.2.2.2.2.2.1 _ _ (by unfold pSl; decide), zr_n (by omega), h87.2.2.2.2.2.2.2.2 _ _ (by unfold pOb; decide), zr_n (by omega), h77.2.2.2.2.2.2.2.2 _ _ (by unfold pOb; decide), zr_n (by omega), h67.2.2.2.2.2.2.2.2 _ _ (by unfold pOb; decide), zr_n (by omega), h57.2.2.2.2.2.2.2.2 _ _ (by unfold pOb; decide), zr_n (by omega), up_s] <;> rfl), ⟨⟨(by show _ = _; rw [h138.2.2.2.2.2.1 _ _ (by unfold pSl; decide), zr_n (by omega), h128.2.2.2.2.2.1 _ _ (by unfold pSl; decide), zr_n (by omega), h118.2.2.2.2.2.1 _ _ (by unfold pSl; decide), zr_n (by omega), h108.2.2.2.2.2.1 _ _ (by unfold pSl; decide), zr_n (by omega), h98.2.2.2.2.2.1 _ _ (by unfold pSl; decide), zr_n (by omega), h87.2.2.2.2.2.2.2.2 _ _ (by unfold pOb; decide), zr_n (by omega), h77.2.2.2.2.2.2.2.2 _ _ (by unfold pOb; decide), zr_n (by omega), h67.2.2.2.2.2.2.2.2 _ _ (by unfold pOb; decide), zr_n (by omega), h57.2.2.2.2.2.2.2.1.1] <;> rfl), (by show _ = _; rw [h138.2.2.2.2.2.1 _ _ (by unfold pSl; decide), zr_n (by omega), h128.2.2.2.2.2.1 _ _ (by unfold pSl; decide), zr_n (by omega), h118.2.2.2.2.2.1 _ _ (by unfold pSl; decide), zr_n (by omega), h108.2.2.2.2.2.1 _ _ (by unfold pSl; decide), zr_n (by omega), h98.2.2.2.2.2.1 _ _ (by unfold pSl; decide), zr_n (by omega), h87.2.2.2.2.2.2.2.2 _ _ (by unfold pOb; decide), zr_n (by omega), h77.2.2.2.2.2.2.2.2 _ _ (by unfold pOb; decide), zr_n (by omega), h67.2.2.2.2.2.2.2.2 _ _ (by unfold pOb; decide), zr_n (by omega), h57.2.2.2.2.2.2.2.1.2] <;> rfl), fun i => (by show _ = _; rw [h138.2.2.2.2.2.1 _ _ (by unfold pSl; decide), zr_n (by omega), h128.2.2.2.2.2.1 _ _ (by unfold pSl; decide), zr_n (by omega), h118.2.2.2.2.2.1 _ _ (by unfold pSl; decide), zr_n (by omega), h108.2.2.2.2.2.1 _ _ (by unfold pSl; decide), zr_n (by omega), h98.2.2.2.2.2.1 _ _ (by unfold pSl; decide), zr_n (by omega), h87.2.2.2.2.2.2.2.2 _ _ (by unfold pOb; decide), zr_n (by omega), h77.2.2.2.2.2.2.2.2 _ _ (by unfold pOb; decide), zr_n (by omega), h67.2.2.2.2.2.2.2.2 _ _ (by unfold pOb; decide), zr_n (by omega), h57.2.2.2.2.2.2.1] <;> rfl)⟩, ⟨(by show _ = _; rw [h138.2.2.2.2.2.1 _ _ (by unfold pSl; decide), zr_n (by omega), h128.2.2.2.2.2.1 _ _ (by unfold pSl; decide), zr_n (by omega), h118.2.2.2.2.2.1 _ _ (by unfold pSl; decide), zr_n (by omega), h108.2.2.2.2.2.1 _ _ (by unfold pSl; decide), zr_n (by omega), h98.2.2.2.2.2.1 _ _ (by unfold pSl; decide), zr_n (by omega), h87.2.2.2.2.2.2.2.2 _ _ (by unfold pOb; decide), zr_n (by omega), h77.2.2.2.2.2.2.2.2 _ _ (by unfold pOb; decide), zr_n (by omega), h67.2.2.2.2.2.2.2.1.1] <;> rfl), (by show _ = _; rw [h138.2.2.2.2.2.1 _ _ (by unfold pSl; decide), zr_n (by omega), h128.2.2.2.2.2.1 _ _ (by unfold pSl; decide), zr_n (by omega), h118.2.2.2.2.2.1 _ _ (by unfold pSl; decide), zr_n (by omega), h108.2.2.2.2.2.1 _ _ (by unfold pSl; decide), zr_n (by omega), h98.2.2.2.2.2.1 _ _ (by unfold pSl; decide), zr_n (by omega), h87.2.2.2.2.2.2.2.2 _ _ (by unfold pOb; decide), zr_n (by omega), h77.2.2.2.2.2.2.2.2 _ _ (by unfold pOb; decide), zr_n (by omega), h67.2.2.2.2.2.2.2.1.2] <;> rfl), fun i => (by show _ = _; rw [h138.2.2.2.2.2.1 _ _ (by unfold pSl; decide), zr_n (by omega), h128.2.2.2.2.2.1 _ _ (by unfold pSl; decide), zr_n (by omega), h118.2.2.2.2.2.1 _ _ (by unfold pSl; decide), zr_n (by omega), h108.2.2.2.2.2.1 _ _ (by unfold pSl; decide), zr_n (by omega), h98.2.2.2.2.2.1 _ _ (by unfold pSl; decide), zr_n (by omega), h87.2.2.2.2.2.2.2.2 _ _ (by unfold pOb; decide), zr_n (by omega), h77.2.2.2.2.2.2.2.2 _ _ (by unfold pOb; decide), zr_n (by omega), h67.2.2.2.2.2.2.1] <;> rfl)⟩, ⟨(by show _ = _; rw [h138.2.2.2.2.2.1 _ _ (by unfold pSl; decide), zr_n (by omega), h128.2.2.2.2.2.1 _ _ (by unfold pSl; decide), zr_n (by omega), h118.2.2.2.2.2.1 _ _ (by unfold pSl; decide), zr_n (by omega), h108.2.2.2.2.2.1 _ _ (by unfold pSl; decide), zr_n (by omega), h98.2.2.2.2.2.1 _ _ (by unfold pSl; decide), zr_n (by omega), h87.2.2.2.2.2.2.2.2 _ _ (by unfold pOb; decide), zr_n (by omega), h77.2.2.2.2.2.2.2.1.1] <;> rfl), (by show _ = _; rw [h138.2.2.2.2.2.1 _ _ (by unfold pSl; decide), zr_n (by omega), h128.2.2.2.2.2.1 _ _ (by unfold pSl; decide), zr_n (by omega), h118.2.2.2.2.2.1 _ _ (by unfold pSl; decide), zr_n (by omega), h108.2.2.2.2.2.1 _ _ (by unfold pSl; decide), zr_n (by omega), h98.2.2.2.2.2.1 _ _ (by unfold pSl; decide), zr_n (by omega), h87.2.2.2.2.2.2.2.2 _ _ (by unfold pOb; decide), zr_n (by omega), h77.2.2.2.2.2.2.2.1.2] <;> rfl), fun i => (by show _ = _; rw [h138.2.2.2.2.2.1 _ _ (by unfold pSl; decide), zr_n (by omega), h128.2.2.2.2.2.1 _ _ (by unfold pSl; decide), zr_n (by omega), h118.2.2.2.2.2.1 _ _ (by unfold pSl; decide), zr_n (by omega), h108.2.2.2.2.2.1 _ _ (by unfold pSl; decide), zr_n (by omega), h98.2.2.2.2.2.1 _ _ (by unfold pSl; decide), zr_n (by omega), h87.2.2.2.2.2.2.2.2 _ _ (by unfold pOb; decide), zr_n (by omega), h77.2.2.2.2.2.2.1] <;> rfl)⟩, ⟨(by show _ = _; rw [h138.2.2.2.2.2.1 _ _ (by unfold pSl; decide), zr_n (by omega), h128.2.2.2.2.2.1 _ _ (by unfold pSl; decide), zr_n (by omega), h118.2.2.2.2.2.1 _ _ (by unfold pSl; decide), zr_n (by omega), h108.2.2.2.2.2.1 _ _ (by unfold pSl; decide), zr_n (by omega), h98.2.2.2.2.2.1 _ _ (by unfold pSl; decide), zr_n (by omega), h87.2.2.2.2.2.2.2.1.1] <;> rfl), (by show _ = _; rw [h138.2.2.2.2.2.1 _ _ (by unfold pSl; decide), zr_n (by omega), h128.2.2.2.2.2.1 _ _ (by unfold pSl; decide), zr_n (by omega), h118.2.2.2.2.2.1 _ _ (by unfold pSl; decide), zr_n (by omega), h108.2.2.2.2.2.1 _ _ (by unfold pSl; decide), zr_n (by omega), h98.2.2.2.2.2.1 _ _ (by unfold pSl; decide), zr_n (by omega), h87.2.2.2.2.2.2.2.1.2] <;> rfl), fun i => (by show _ = _; rw [h138.2.2.2.2.2.1 _ _ (by unfold pSl; decide), zr_n (by omega), h128.2.2.2.2.2.1 _ _ (by unfold pSl; decide), zr_n (by omega), h118.2.2.2.2.2.1 _ _ (by unfold pSl; decide), zr_n (by omega), h108.2.2.2.2.2.1 _ _ (by unfold pSl; decide), zr_n (by omega), h98.2.2.2.2.2.1 _ _ (by unfold pSl; decide), zr_n (by omega), h87.2.2.2.2.2.2.1] <;> rfl)⟩⟩, ⟨(by show _ = _; rw [h138.2.2.2.2.2.1 _ _ (by unfold pSl; decide), zr_n (by omega), h128.2.2.2.2.2.1 _ _ (by unfold pSl; decide), zr_n (by omega), h118.2.2.2.2.2.1 _ _ (by unfold pSl; decide), zr_n (by omega), h108.2.2.2.2.2.1 _ _ (by unfold pSl; decide), zr_n (by omega), h98.2.2.2.2.1] <;> rfl), (by show _ = _; rw [h138.2.2.2.2.2.1 _ _ (by unfold pSl; decide), zr_n (by omega), h128.2.2.2.2.2.1 _ _ (by unfold pSl; decide), zr_n (by omega), h118.2.2.2.2.2.1 _ _ (by unfold pSl; decide), zr_n (by omega), h108.2.2.2.2.1] <;> rfl), (by show _ = _; rw [h138.2.2.2.2.2.1 _ _ (by unfold pSl; decide), zr_n (by omega), h128.2.2.2.2.2.1 _ _ (by unfold pSl; decide), zr_n (by omega), h118.2.2.2.2.1] <;> rfl), (by show _ = _; rw [h138.2.2.2.2.2.1 _ _ (by unfold pSl; decide), zr_n (by omega), h128.2.2.2.2.1] <;> rfl), (by show _ = _; rw [h138.2.2.2.2.1] <;> rfl)⟩⟩)
