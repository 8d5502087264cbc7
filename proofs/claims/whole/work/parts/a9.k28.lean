def moS : List (Nat × Nat × Nat) := [(19, 10, 120), (18, 10, 5), (17, 10, 5), (16, 10, 5), (15, 10, 24), (14, 10, 96), (13, 10, 4), (12, 10, 4), (11, 10, 100), (10, 10, 100), (9, 10, 26), (8, 12, 24), (7, 10, 12), (6, 10, 6), (5, 10, 60), (4, 10, 96), (3, 10, 1605), (2, 10, 1605), (1, 10, 1605), (0, 9, 0)]
def moT : List (Nat × Nat × Option Nat) := [(0, 42, some 19), (0, 41, some 18), (0, 40, some 17), (0, 39, some 16), (0, 38, some 15), (0, 37, some 14), (0, 36, some 13), (0, 35, some 12), (0, 34, some 11), (0, 33, some 10), (0, 19, some 9), (0, 16, some 8), (0, 15, some 7), (0, 14, some 6), (0, 6, some 5), (0, 4, some 4), (0, 2, some 3), (0, 1, some 2), (0, 0, some 1)]
def NwM (L : La) (σ : Me) (L' : La) (σ' : Me) : Prop := Fx L' (moS ++ clS) (moT ++ clT) ∧ L'.1 0 = L.1 0 ∧ L'.1 100 = L.1 100 ∧ σ' 1 4 = 1 ∧ (∀ i, i ≠ 4 → σ' 1 i = 0) ∧ (∀ d i, 2 ≤ d → d ≤ 19 → d ≠ 12 → σ' d i = 0) ∧ (σ' 12 0 = (-1) ∧ σ' 12 1 = (-1) ∧ σ' 12 2 = (-1) ∧ σ' 12 3 = (-1)) ∧ ∀ d i, d = 0 ∨ 20 ≤ d → σ' d i = σ d i

set_option maxHeartbeats 4000000 in
set_option maxRecDepth 100000 in
theorem c_X10_init {l : Launch} {D : Ds} {L : La}  (σ : Me) (hF : Fx L ((0, 9, 0) :: clS) clT) : Ct l yX10_init cX10_init 2 none { frames := 1, cells := 19, slots := 5502, locals := 20 } D L σ [.ref (L.1 0)] (PN (NwM L σ)) := by
  refine Ct.of (by decide) (Nat.le_of_ble_eq_true rfl) ?_
  intro X hl hD hnl hX0 hQ
  have hX : Ok X cX10_init RX10 "<init>" { frames := 1, cells := 19, slots := 5502, locals := 20 } none := hX0
  have hN1 : 1 < xn X := by rw [hnl]; decide
  show At X L σ 0 0 [(0, .ref (L.1 0))] 0 []
  refine r_aload_n hX dX10_init_0 rfl ?_
  refine r_oinit hX dX10_init_1 ⟨(inT_5 (List.mem_of_getElem? (i := 14) rfl) rfl), w_oi.1, w_oi.2⟩ ⟨Nat.le_of_ble_eq_true rfl, Nat.le_of_ble_eq_true rfl⟩ (Nat.le_of_ble_eq_true rfl) ?_
  refine r_aload_n hX dX10_init_4 rfl ?_
  refine r_sipush hX (nI 1605) dX10_init_5 rfl ?_
  refine r_newa hX (1) 10 (fun L' => [(0, .ref (L'.1 0))]) (fun L' => [.ref (L'.1 0)]) dX10_init_8 (inT_1 (List.mem_of_getElem? (i := 72) rfl) rfl) ⟨by decide, by decide, rfl, rfl, rfl⟩ ⟨by decide, by decide⟩ (hF.f 1 rfl) hF.1 ⟨Nat.le_of_ble_eq_true rfl, Nat.le_of_ble_eq_true rfl⟩ (fun L' h => ⟨(by have e0 : L'.1 0 = L.1 0 := (h.1 _ (by decide)).1; rw [e0] <;> rfl), (by have e0 : L'.1 0 = L.1 0 := (h.1 _ (by decide)).1; rw [e0] <;> rfl)⟩) (fun L1 hNw2 => ?_)
  have hF3 := hF.nw hNw2 rfl rfl
  refine r_putR hX (some (1)) dX10_init_10 fl_X10_9 (hF3.s 0 9 0 (List.mem_of_getElem? (i := 1) rfl)) rfl (Or.inr ⟨rfl, rfl⟩) ?_
  have hF4 := hF3.ut (c := 0) (j := 0) (v := (some 1)) (fun t ht => by cases ht; exact ⟨_, (hF3.s 1 10 1605 (List.mem_of_getElem? (i := 0) rfl))⟩) rfl
  refine r_aload_n hX dX10_init_13 rfl ?_
  refine r_sipush hX (nI 1605) dX10_init_14 rfl ?_
  refine r_newa hX (2) 10 (fun L' => [(0, .ref (L'.1 0))]) (fun L' => [.ref (L'.1 0)]) dX10_init_17 (inT_1 (List.mem_of_getElem? (i := 72) rfl) rfl) ⟨by decide, by decide, rfl, rfl, rfl⟩ ⟨by decide, by decide⟩ (hF4.f 2 rfl) hF4.1 ⟨Nat.le_of_ble_eq_true rfl, Nat.le_of_ble_eq_true rfl⟩ (fun L' h => ⟨(by have e0 : L'.1 0 = L1.1 0 := (h.1 _ (by decide)).1; rw [e0] <;> rfl), (by have e0 : L'.1 0 = L1.1 0 := (h.1 _ (by decide)).1; rw [e0] <;> rfl)⟩) (fun L5 hNw6 => ?_)
  have hF7 := hF4.nw hNw6 rfl rfl
  refine r_putR hX (some (2)) dX10_init_19 fl_X10_13 (hF7.s 0 9 0 (List.mem_of_getElem? (i := 2) rfl)) rfl (Or.inr ⟨rfl, rfl⟩) ?_
  have hF8 := hF7.ut (c := 0) (j := 1) (v := (some 2)) (fun t ht => by cases ht; exact ⟨_, (hF7.s 2 10 1605 (List.mem_of_getElem? (i := 0) rfl))⟩) rfl
  refine r_aload_n hX dX10_init_22 rfl ?_
  refine r_sipush hX (nI 1605) dX10_init_23 rfl ?_
  refine r_newa hX (3) 10 (fun L' => [(0, .ref (L'.1 0))]) (fun L' => [.ref (L'.1 0)]) dX10_init_26 (inT_1 (List.mem_of_getElem? (i := 72) rfl) rfl) ⟨by decide, by decide, rfl, rfl, rfl⟩ ⟨by decide, by decide⟩ (hF8.f 3 rfl) hF8.1 ⟨Nat.le_of_ble_eq_true rfl, Nat.le_of_ble_eq_true rfl⟩ (fun L' h => ⟨(by have e0 : L'.1 0 = L5.1 0 := (h.1 _ (by decide)).1; rw [e0] <;> rfl), (by have e0 : L'.1 0 = L5.1 0 := (h.1 _ (by decide)).1; rw [e0] <;> rfl)⟩) (fun L9 hNw10 => ?_)
  have hF11 := hF8.nw hNw10 rfl rfl
  refine r_putR hX (some (3)) dX10_init_28 fl_X10_16 (hF11.s 0 9 0 (List.mem_of_getElem? (i := 3) rfl)) rfl (Or.inr ⟨rfl, rfl⟩) ?_
  have hF12 := hF11.ut (c := 0) (j := 2) (v := (some 3)) (fun t ht => by cases ht; exact ⟨_, (hF11.s 3 10 1605 (List.mem_of_getElem? (i := 0) rfl))⟩) rfl
  refine r_aload_n hX dX10_init_31 rfl ?_
  refine r_bipush hX (nI 96) dX10_init_32 rfl ?_
  refine r_newa hX (4) 10 (fun L' => [(0, .ref (L'.1 0))]) (fun L' => [.ref (L'.1 0)]) dX10_init_34 (inT_1 (List.mem_of_getElem? (i := 72) rfl) rfl) ⟨by decide, by decide, rfl, rfl, rfl⟩ ⟨by decide, by decide⟩ (hF12.f 4 rfl) hF12.1 ⟨Nat.le_of_ble_eq_true rfl, Nat.le_of_ble_eq_true rfl⟩ (fun L' h => ⟨(by have e0 : L'.1 0 = L9.1 0 := (h.1 _ (by decide)).1; rw [e0] <;> rfl), (by have e0 : L'.1 0 = L9.1 0 := (h.1 _ (by decide)).1; rw [e0] <;> rfl)⟩) (fun L13 hNw14 => ?_)
  have hF15 := hF12.nw hNw14 rfl rfl
  refine r_putR hX (some (4)) dX10_init_36 fl_X10_19 (hF15.s 0 9 0 (List.mem_of_getElem? (i := 4) rfl)) rfl (Or.inr ⟨rfl, rfl⟩) ?_
  have hF16 := hF15.ut (c := 0) (j := 4) (v := (some 4)) (fun t ht => by cases ht; exact ⟨_, (hF15.s 4 10 96 (List.mem_of_getElem? (i := 0) rfl))⟩) rfl
  refine r_aload_n hX dX10_init_39 rfl ?_
  refine r_bipush hX (nI 60) dX10_init_40 rfl ?_
  refine r_newa hX (5) 10 (fun L' => [(0, .ref (L'.1 0))]) (fun L' => [.ref (L'.1 0)]) dX10_init_42 (inT_1 (List.mem_of_getElem? (i := 72) rfl) rfl) ⟨by decide, by decide, rfl, rfl, rfl⟩ ⟨by decide, by decide⟩ (hF16.f 5 rfl) hF16.1 ⟨Nat.le_of_ble_eq_true rfl, Nat.le_of_ble_eq_true rfl⟩ (fun L' h => ⟨(by have e0 : L'.1 0 = L13.1 0 := (h.1 _ (by decide)).1; rw [e0] <;> rfl), (by have e0 : L'.1 0 = L13.1 0 := (h.1 _ (by decide)).1; rw [e0] <;> rfl)⟩) (fun L17 hNw18 => ?_)
  have hF19 := hF16.nw hNw18 rfl rfl
  refine r_putR hX (some (5)) dX10_init_44 fl_X10_22 (hF19.s 0 9 0 (List.mem_of_getElem? (i := 5) rfl)) rfl (Or.inr ⟨rfl, rfl⟩) ?_
  have hF20 := hF19.ut (c := 0) (j := 6) (v := (some 5)) (fun t ht => by cases ht; exact ⟨_, (hF19.s 5 10 60 (List.mem_of_getElem? (i := 0) rfl))⟩) rfl
  refine r_aload_n hX dX10_init_47 rfl ?_
  refine r_bipush hX (nI 6) dX10_init_48 rfl ?_
  refine r_newa hX (6) 10 (fun L' => [(0, .ref (L'.1 0))]) (fun L' => [.ref (L'.1 0)]) dX10_init_50 (inT_1 (List.mem_of_getElem? (i := 72) rfl) rfl) ⟨by decide, by decide, rfl, rfl, rfl⟩ ⟨by decide, by decide⟩ (hF20.f 6 rfl) hF20.1 ⟨Nat.le_of_ble_eq_true rfl, Nat.le_of_ble_eq_true rfl⟩ (fun L' h => ⟨(by have e0 : L'.1 0 = L17.1 0 := (h.1 _ (by decide)).1; rw [e0] <;> rfl), (by have e0 : L'.1 0 = L17.1 0 := (h.1 _ (by decide)).1; rw [e0] <;> rfl)⟩) (fun L21 hNw22 => ?_)
  have hF23 := hF20.nw hNw22 rfl rfl
  refine r_putR hX (some (6)) dX10_init_52 fl_X10_25 (hF23.s 0 9 0 (List.mem_of_getElem? (i := 6) rfl)) rfl (Or.inr ⟨rfl, rfl⟩) ?_
  have hF24 := hF23.ut (c := 0) (j := 14) (v := (some 6)) (fun t ht => by cases ht; exact ⟨_, (hF23.s 6 10 6 (List.mem_of_getElem? (i := 0) rfl))⟩) rfl
  refine r_aload_n hX dX10_init_55 rfl ?_
  refine r_bipush hX (nI 12) dX10_init_56 rfl ?_
  refine r_newa hX (7) 10 (fun L' => [(0, .ref (L'.1 0))]) (fun L' => [.ref (L'.1 0)]) dX10_init_58 (inT_1 (List.mem_of_getElem? (i := 72) rfl) rfl) ⟨by decide, by decide, rfl, rfl, rfl⟩ ⟨by decide, by decide⟩ (hF24.f 7 rfl) hF24.1 ⟨Nat.le_of_ble_eq_true rfl, Nat.le_of_ble_eq_true rfl⟩ (fun L' h => ⟨(by have e0 : L'.1 0 = L21.1 0 := (h.1 _ (by decide)).1; rw [e0] <;> rfl), (by have e0 : L'.1 0 = L21.1 0 := (h.1 _ (by decide)).1; rw [e0] <;> rfl)⟩) (fun L25 hNw26 => ?_)
  have hF27 := hF24.nw hNw26 rfl rfl
  refine r_putR hX (some (7)) dX10_init_60 fl_X10_28 (hF27.s 0 9 0 (List.mem_of_getElem? (i := 7) rfl)) rfl (Or.inr ⟨rfl, rfl⟩) ?_
  have hF28 := hF27.ut (c := 0) (j := 15) (v := (some 7)) (fun t ht => by cases ht; exact ⟨_, (hF27.s 7 10 12 (List.mem_of_getElem? (i := 0) rfl))⟩) rfl
  refine r_aload_n hX dX10_init_63 rfl ?_
  refine r_bipush hX (nI 24) dX10_init_64 rfl ?_
  refine r_newa hX (8) 12 (fun L' => [(0, .ref (L'.1 0))]) (fun L' => [.ref (L'.1 0)]) dX10_init_66 (inT_5 (List.mem_of_getElem? (i := 145) rfl) rfl) ⟨by decide, by decide, rfl, rfl, rfl⟩ ⟨by decide, by decide⟩ (hF28.f 8 rfl) hF28.1 ⟨Nat.le_of_ble_eq_true rfl, Nat.le_of_ble_eq_true rfl⟩ (fun L' h => ⟨(by have e0 : L'.1 0 = L25.1 0 := (h.1 _ (by decide)).1; rw [e0] <;> rfl), (by have e0 : L'.1 0 = L25.1 0 := (h.1 _ (by decide)).1; rw [e0] <;> rfl)⟩) (fun L29 hNw30 => ?_)
  have hF31 := hF28.nw hNw30 rfl rfl
  refine r_putR hX (some (8)) dX10_init_68 fl_X10_31 (hF31.s 0 9 0 (List.mem_of_getElem? (i := 8) rfl)) rfl (Or.inr ⟨rfl, rfl⟩) ?_
  have hF32 := hF31.ut (c := 0) (j := 16) (v := (some 8)) (fun t ht => by cases ht; exact ⟨_, (hF31.s 8 12 24 (List.mem_of_getElem? (i := 0) rfl))⟩) rfl
  refine r_aload_n hX dX10_init_71 rfl ?_
  refine r_bipush hX (nI 26) dX10_init_72 rfl ?_
  refine r_newa hX (9) 10 (fun L' => [(0, .ref (L'.1 0))]) (fun L' => [.ref (L'.1 0)]) dX10_init_74 (inT_1 (List.mem_of_getElem? (i := 72) rfl) rfl) ⟨by decide, by decide, rfl, rfl, rfl⟩ ⟨by decide, by decide⟩ (hF32.f 9 rfl) hF32.1 ⟨Nat.le_of_ble_eq_true rfl, Nat.le_of_ble_eq_true rfl⟩ (fun L' h => ⟨(by have e0 : L'.1 0 = L29.1 0 := (h.1 _ (by decide)).1; rw [e0] <;> rfl), (by have e0 : L'.1 0 = L29.1 0 := (h.1 _ (by decide)).1; rw [e0] <;> rfl)⟩) (fun L33 hNw34 => ?_)
  have hF35 := hF32.nw hNw34 rfl rfl
  refine r_putR hX (some (9)) dX10_init_76 fl_X10_35 (hF35.s 0 9 0 (List.mem_of_getElem? (i := 9) rfl)) rfl (Or.inr ⟨rfl, rfl⟩) ?_
  have hF36 := hF35.ut (c := 0) (j := 19) (v := (some 9)) (fun t ht => by cases ht; exact ⟨_, (hF35.s 9 10 26 (List.mem_of_getElem? (i := 0) rfl))⟩) rfl
  refine r_aload_n hX dX10_init_79 rfl ?_
  refine r_bipush hX (nI 100) dX10_init_80 rfl ?_
  refine r_newa hX (10) 10 (fun L' => [(0, .ref (L'.1 0))]) (fun L' => [.ref (L'.1 0)]) dX10_init_82 (inT_1 (List.mem_of_getElem? (i := 72) rfl) rfl) ⟨by decide, by decide, rfl, rfl, rfl⟩ ⟨by decide, by decide⟩ (hF36.f 10 rfl) hF36.1 ⟨Nat.le_of_ble_eq_true rfl, Nat.le_of_ble_eq_true rfl⟩ (fun L' h => ⟨(by have e0 : L'.1 0 = L33.1 0 := (h.1 _ (by decide)).1; rw [e0] <;> rfl), (by have e0 : L'.1 0 = L33.1 0 := (h.1 _ (by decide)).1; rw [e0] <;> rfl)⟩) (fun L37 hNw38 => ?_)
  have hF39 := hF36.nw hNw38 rfl rfl
  refine r_putR hX (some (10)) dX10_init_84 fl_X10_38 (hF39.s 0 9 0 (List.mem_of_getElem? (i := 10) rfl)) rfl (Or.inr ⟨rfl, rfl⟩) ?_
  have hF40 := hF39.ut (c := 0) (j := 33) (v := (some 10)) (fun t ht => by cases ht; exact ⟨_, (hF39.s 10 10 100 (List.mem_of_getElem? (i := 0) rfl))⟩) rfl
  refine r_aload_n hX dX10_init_87 rfl ?_
  refine r_bipush hX (nI 100) dX10_init_88 rfl ?_
  refine r_newa hX (11) 10 (fun L' => [(0, .ref (L'.1 0))]) (fun L' => [.ref (L'.1 0)]) dX10_init_90 (inT_1 (List.mem_of_getElem? (i := 72) rfl) rfl) ⟨by decide, by decide, rfl, rfl, rfl⟩ ⟨by decide, by decide⟩ (hF40.f 11 rfl) hF40.1 ⟨Nat.le_of_ble_eq_true rfl, Nat.le_of_ble_eq_true rfl⟩ (fun L' h => ⟨(by have e0 : L'.1 0 = L37.1 0 := (h.1 _ (by decide)).1; rw [e0] <;> rfl), (by have e0 : L'.1 0 = L37.1 0 := (h.1 _ (by decide)).1; rw [e0] <;> rfl)⟩) (fun L41 hNw42 => ?_)
  have hF43 := hF40.nw hNw42 rfl rfl
  refine r_putR hX (some (11)) dX10_init_92 fl_X10_41 (hF43.s 0 9 0 (List.mem_of_getElem? (i := 11) rfl)) rfl (Or.inr ⟨rfl, rfl⟩) ?_
  have hF44 := hF43.ut (c := 0) (j := 34) (v := (some 11)) (fun t ht => by cases ht; exact ⟨_, (hF43.s 11 10 100 (List.mem_of_getElem? (i := 0) rfl))⟩) rfl
  refine r_aload_n hX dX10_init_95 rfl ?_
  refine r_iconst hX (nI 4) dX10_init_96 rfl ?_
  refine r_newa hX (12) 10 (fun L' => [(0, .ref (L'.1 0))]) (fun L' => [.ref (L'.1 0)]) dX10_init_97 (inT_1 (List.mem_of_getElem? (i := 72) rfl) rfl) ⟨by decide, by decide, rfl, rfl, rfl⟩ ⟨by decide, by decide⟩ (hF44.f 12 rfl) hF44.1 ⟨Nat.le_of_ble_eq_true rfl, Nat.le_of_ble_eq_true rfl⟩ (fun L' h => ⟨(by have e0 : L'.1 0 = L41.1 0 := (h.1 _ (by decide)).1; rw [e0] <;> rfl), (by have e0 : L'.1 0 = L41.1 0 := (h.1 _ (by decide)).1; rw [e0] <;> rfl)⟩) (fun L45 hNw46 => ?_)
  have hF47 := hF44.nw hNw46 rfl rfl
  refine r_putR hX (some (12)) dX10_init_99 fl_X10_44 (hF47.s 0 9 0 (List.mem_of_getElem? (i := 12) rfl)) rfl (Or.inr ⟨rfl, rfl⟩) ?_
  have hF48 := hF47.ut (c := 0) (j := 35) (v := (some 12)) (fun t ht => by cases ht; exact ⟨_, (hF47.s 12 10 4 (List.mem_of_getElem? (i := 0) rfl))⟩) rfl
  refine r_aload_n hX dX10_init_102 rfl ?_
  refine r_iconst hX (nI 4) dX10_init_103 rfl ?_
  refine r_newa hX (13) 10 (fun L' => [(0, .ref (L'.1 0))]) (fun L' => [.ref (L'.1 0)]) dX10_init_104 (inT_1 (List.mem_of_getElem? (i := 72) rfl) rfl) ⟨by decide, by decide, rfl, rfl, rfl⟩ ⟨by decide, by decide⟩ (hF48.f 13 rfl) hF48.1 ⟨Nat.le_of_ble_eq_true rfl, Nat.le_of_ble_eq_true rfl⟩ (fun L' h => ⟨(by have e0 : L'.1 0 = L45.1 0 := (h.1 _ (by decide)).1; rw [e0] <;> rfl), (by have e0 : L'.1 0 = L45.1 0 := (h.1 _ (by decide)).1; rw [e0] <;> rfl)⟩) (fun L49 hNw50 => ?_)
  have hF51 := hF48.nw hNw50 rfl rfl
  refine r_putR hX (some (13)) dX10_init_106 fl_X10_47 (hF51.s 0 9 0 (List.mem_of_getElem? (i := 13) rfl)) rfl (Or.inr ⟨rfl, rfl⟩) ?_
  have hF52 := hF51.ut (c := 0) (j := 36) (v := (some 13)) (fun t ht => by cases ht; exact ⟨_, (hF51.s 13 10 4 (List.mem_of_getElem? (i := 0) rfl))⟩) rfl
  refine r_aload_n hX dX10_init_109 rfl ?_
  refine r_bipush hX (nI 96) dX10_init_110 rfl ?_
  refine r_newa hX (14) 10 (fun L' => [(0, .ref (L'.1 0))]) (fun L' => [.ref (L'.1 0)]) dX10_init_112 (inT_1 (List.mem_of_getElem? (i := 72) rfl) rfl) ⟨by decide, by decide, rfl, rfl, rfl⟩ ⟨by decide, by decide⟩ (hF52.f 14 rfl) hF52.1 ⟨Nat.le_of_ble_eq_true rfl, Nat.le_of_ble_eq_true rfl⟩ (fun L' h => ⟨(by have e0 : L'.1 0 = L49.1 0 := (h.1 _ (by decide)).1; rw [e0] <;> rfl), (by have e0 : L'.1 0 = L49.1 0 := (h.1 _ (by decide)).1; rw [e0] <;> rfl)⟩) (fun L53 hNw54 => ?_)
  have hF55 := hF52.nw hNw54 rfl rfl
  refine r_putR hX (some (14)) dX10_init_114 fl_X10_50 (hF55.s 0 9 0 (List.mem_of_getElem? (i := 14) rfl)) rfl (Or.inr ⟨rfl, rfl⟩) ?_
  have hF56 := hF55.ut (c := 0) (j := 37) (v := (some 14)) (fun t ht => by cases ht; exact ⟨_, (hF55.s 14 10 96 (List.mem_of_getElem? (i := 0) rfl))⟩) rfl
  refine r_aload_n hX dX10_init_117 rfl ?_
  refine r_bipush hX (nI 24) dX10_init_118 rfl ?_
  refine r_newa hX (15) 10 (fun L' => [(0, .ref (L'.1 0))]) (fun L' => [.ref (L'.1 0)]) dX10_init_120 (inT_1 (List.mem_of_getElem? (i := 72) rfl) rfl) ⟨by decide, by decide, rfl, rfl, rfl⟩ ⟨by decide, by decide⟩ (hF56.f 15 rfl) hF56.1 ⟨Nat.le_of_ble_eq_true rfl, Nat.le_of_ble_eq_true rfl⟩ (fun L' h => ⟨(by have e0 : L'.1 0 = L53.1 0 := (h.1 _ (by decide)).1; rw [e0] <;> rfl), (by have e0 : L'.1 0 = L53.1 0 := (h.1 _ (by decide)).1; rw [e0] <;> rfl)⟩) (fun L57 hNw58 => ?_)
  have hF59 := hF56.nw hNw58 rfl rfl
  refine r_putR hX (some (15)) dX10_init_122 fl_X10_53 (hF59.s 0 9 0 (List.mem_of_getElem? (i := 15) rfl)) rfl (Or.inr ⟨rfl, rfl⟩) ?_
  have hF60 := hF59.ut (c := 0) (j := 38) (v := (some 15)) (fun t ht => by cases ht; exact ⟨_, (hF59.s 15 10 24 (List.mem_of_getElem? (i := 0) rfl))⟩) rfl
  refine r_aload_n hX dX10_init_125 rfl ?_
  refine r_iconst hX (nI 5) dX10_init_126 rfl ?_
  refine r_newa hX (16) 10 (fun L' => [(0, .ref (L'.1 0))]) (fun L' => [.ref (L'.1 0)]) dX10_init_127 (inT_1 (List.mem_of_getElem? (i := 72) rfl) rfl) ⟨by decide, by decide, rfl, rfl, rfl⟩ ⟨by decide, by decide⟩ (hF60.f 16 rfl) hF60.1 ⟨Nat.le_of_ble_eq_true rfl, Nat.le_of_ble_eq_true rfl⟩ (fun L' h => ⟨(by have e0 : L'.1 0 = L57.1 0 := (h.1 _ (by decide)).1; rw [e0] <;> rfl), (by have e0 : L'.1 0 = L57.1 0 := (h.1 _ (by decide)).1; rw [e0] <;> rfl)⟩) (fun L61 hNw62 => ?_)
  have hF63 := hF60.nw hNw62 rfl rfl
  refine r_putR hX (some (16)) dX10_init_129 fl_X10_56 (hF63.s 0 9 0 (List.mem_of_getElem? (i := 16) rfl)) rfl (Or.inr ⟨rfl, rfl⟩) ?_
  have hF64 := hF63.ut (c := 0) (j := 39) (v := (some 16)) (fun t ht => by cases ht; exact ⟨_, (hF63.s 16 10 5 (List.mem_of_getElem? (i := 0) rfl))⟩) rfl
  refine r_aload_n hX dX10_init_132 rfl ?_
  refine r_iconst hX (nI 5) dX10_init_133 rfl ?_
  refine r_newa hX (17) 10 (fun L' => [(0, .ref (L'.1 0))]) (fun L' => [.ref (L'.1 0)]) dX10_init_134 (inT_1 (List.mem_of_getElem? (i := 72) rfl) rfl) ⟨by decide, by decide, rfl, rfl, rfl⟩ ⟨by decide, by decide⟩ (hF64.f 17 rfl) hF64.1 ⟨Nat.le_of_ble_eq_true rfl, Nat.le_of_ble_eq_true rfl⟩ (fun L' h => ⟨(by have e0 : L'.1 0 = L61.1 0 := (h.1 _ (by decide)).1; rw [e0] <;> rfl), (by have e0 : L'.1 0 = L61.1 0 := (h.1 _ (by decide)).1; rw [e0] <;> rfl)⟩) (fun L65 hNw66 => ?_)
  have hF67 := hF64.nw hNw66 rfl rfl
  refine r_putR hX (some (17)) dX10_init_136 fl_X10_59 (hF67.s 0 9 0 (List.mem_of_getElem? (i := 17) rfl)) rfl (Or.inr ⟨rfl, rfl⟩) ?_
  have hF68 := hF67.ut (c := 0) (j := 40) (v := (some 17)) (fun t ht => by cases ht; exact ⟨_, (hF67.s 17 10 5 (List.mem_of_getElem? (i := 0) rfl))⟩) rfl
  refine r_aload_n hX dX10_init_139 rfl ?_
  refine r_iconst hX (nI 5) dX10_init_140 rfl ?_
  refine r_newa hX (18) 10 (fun L' => [(0, .ref (L'.1 0))]) (fun L' => [.ref (L'.1 0)]) dX10_init_141 (inT_1 (List.mem_of_getElem? (i := 72) rfl) rfl) ⟨by decide, by decide, rfl, rfl, rfl⟩ ⟨by decide, by decide⟩ (hF68.f 18 rfl) hF68.1 ⟨Nat.le_of_ble_eq_true rfl, Nat.le_of_ble_eq_true rfl⟩ (fun L' h => ⟨(by have e0 : L'.1 0 = L65.1 0 := (h.1 _ (by decide)).1; rw [e0] <;> rfl), (by have e0 : L'.1 0 = L65.1 0 := (h.1 _ (by decide)).1; rw [e0] <;> rfl)⟩) (fun L69 hNw70 => ?_)
  have hF71 := hF68.nw hNw70 rfl rfl
  refine r_putR hX (some (18)) dX10_init_143 fl_X10_62 (hF71.s 0 9 0 (List.mem_of_getElem? (i := 18) rfl)) rfl (Or.inr ⟨rfl, rfl⟩) ?_
  have hF72 := hF71.ut (c := 0) (j := 41) (v := (some 18)) (fun t ht => by cases ht; exact ⟨_, (hF71.s 18 10 5 (List.mem_of_getElem? (i := 0) rfl))⟩) rfl
  refine r_aload_n hX dX10_init_146 rfl ?_
  refine r_bipush hX (nI 120) dX10_init_147 rfl ?_
  refine r_newa hX (19) 10 (fun L' => [(0, .ref (L'.1 0))]) (fun L' => [.ref (L'.1 0)]) dX10_init_149 (inT_1 (List.mem_of_getElem? (i := 72) rfl) rfl) ⟨by decide, by decide, rfl, rfl, rfl⟩ ⟨by decide, by decide⟩ (hF72.f 19 rfl) hF72.1 ⟨Nat.le_of_ble_eq_true rfl, Nat.le_of_ble_eq_true rfl⟩ (fun L' h => ⟨(by have e0 : L'.1 0 = L69.1 0 := (h.1 _ (by decide)).1; rw [e0] <;> rfl), (by have e0 : L'.1 0 = L69.1 0 := (h.1 _ (by decide)).1; rw [e0] <;> rfl)⟩) (fun L73 hNw74 => ?_)
  have hF75 := hF72.nw hNw74 rfl rfl
  refine r_putR hX (some (19)) dX10_init_151 fl_X10_65 (hF75.s 0 9 0 (List.mem_of_getElem? (i := 19) rfl)) rfl (Or.inr ⟨rfl, rfl⟩) ?_
  have hF76 := hF75.ut (c := 0) (j := 42) (v := (some 19)) (fun t ht => by cases ht; exact ⟨_, (hF75.s 19 10 120 (List.mem_of_getElem? (i := 0) rfl))⟩) rfl
  refine r_aload_n hX dX10_init_154 rfl ?_
  refine r_getR hX dX10_init_155 fl_X10_9 (hF76.s 0 9 0 (List.mem_of_getElem? (i := 19) rfl)) rfl (hF76.t 0 0 1 (List.mem_of_getElem? (i := 18) rfl)) ?_
  refine r_iconst hX (nI 4) dX10_init_158 rfl ?_
  refine r_iconst hX (nI 1) dX10_init_159 rfl ?_
  refine r_astN hX dX10_init_160 (hF76.s 1 10 1605 (List.mem_of_getElem? (i := 18) rfl)) (by decide) (by decide) ?_
  refine r_iconst hX (nI 0) dX10_init_161 rfl ?_
  refine r_istore_n hX [(0, .ref (L73.1 0)), (1, .int (nI 0))] dX10_init_162 hN1 rfl ?_
  refine r_iload_n hX dX10_init_163 rfl ?_
  refine r_iconst hX (nI 4) dX10_init_164 rfl ?_
  refine r_icmpN_ge hX dX10_init_165 (by decide) (by decide) (fun c77 => absurd c77 (by decide)) (fun c77 => ?_)
  refine r_aload_n hX dX10_init_168 rfl ?_
  refine r_getR hX dX10_init_169 fl_X10_44 (hF76.s 0 9 0 (List.mem_of_getElem? (i := 19) rfl)) rfl (hF76.t 0 35 12 (List.mem_of_getElem? (i := 7) rfl)) ?_
  refine r_iload_n hX dX10_init_172 rfl ?_
  refine r_iconst hX (-1) dX10_init_173 rfl ?_
  refine r_astN hX dX10_init_174 (hF76.s 12 10 4 (List.mem_of_getElem? (i := 7) rfl)) (by decide) (by decide) ?_
  refine r_iincN (n := 1) hX [(0, .ref (L73.1 0)), (1, .int (nI 1))] dX10_init_175 rfl hN1 rfl ?_
  refine r_goto hX dX10_init_178 ?_
  refine r_iload_n hX dX10_init_163 rfl ?_
  refine r_iconst hX (nI 4) dX10_init_164 rfl ?_
  refine r_icmpN_ge hX dX10_init_165 (by decide) (by decide) (fun c78 => absurd c78 (by decide)) (fun c78 => ?_)
  refine r_aload_n hX dX10_init_168 rfl ?_
  refine r_getR hX dX10_init_169 fl_X10_44 (hF76.s 0 9 0 (List.mem_of_getElem? (i := 19) rfl)) rfl (hF76.t 0 35 12 (List.mem_of_getElem? (i := 7) rfl)) ?_
  refine r_iload_n hX dX10_init_172 rfl ?_
  refine r_iconst hX (-1) dX10_init_173 rfl ?_
  refine r_astN hX dX10_init_174 (hF76.s 12 10 4 (List.mem_of_getElem? (i := 7) rfl)) (by decide) (by decide) ?_
  refine r_iincN (n := 1) hX [(0, .ref (L73.1 0)), (1, .int (nI 2))] dX10_init_175 rfl hN1 rfl ?_
  refine r_goto hX dX10_init_178 ?_
  refine r_iload_n hX dX10_init_163 rfl ?_
  refine r_iconst hX (nI 4) dX10_init_164 rfl ?_
  refine r_icmpN_ge hX dX10_init_165 (by decide) (by decide) (fun c79 => absurd c79 (by decide)) (fun c79 => ?_)
  refine r_aload_n hX dX10_init_168 rfl ?_
  refine r_getR hX dX10_init_169 fl_X10_44 (hF76.s 0 9 0 (List.mem_of_getElem? (i := 19) rfl)) rfl (hF76.t 0 35 12 (List.mem_of_getElem? (i := 7) rfl)) ?_
  refine r_iload_n hX dX10_init_172 rfl ?_
  refine r_iconst hX (-1) dX10_init_173 rfl ?_
  refine r_astN hX dX10_init_174 (hF76.s 12 10 4 (List.mem_of_getElem? (i := 7) rfl)) (by decide) (by decide) ?_
  refine r_iincN (n := 1) hX [(0, .ref (L73.1 0)), (1, .int (nI 3))] dX10_init_175 rfl hN1 rfl ?_
  refine r_goto hX dX10_init_178 ?_
  refine r_iload_n hX dX10_init_163 rfl ?_
  refine r_iconst hX (nI 4) dX10_init_164 rfl ?_
  refine r_icmpN_ge hX dX10_init_165 (by decide) (by decide) (fun c80 => absurd c80 (by decide)) (fun c80 => ?_)
  refine r_aload_n hX dX10_init_168 rfl ?_
  refine r_getR hX dX10_init_169 fl_X10_44 (hF76.s 0 9 0 (List.mem_of_getElem? (i := 19) rfl)) rfl (hF76.t 0 35 12 (List.mem_of_getElem? (i := 7) rfl)) ?_
  refine r_iload_n hX dX10_init_172 rfl ?_
  refine r_iconst hX (-1) dX10_init_173 rfl ?_
  refine r_astN hX dX10_init_174 (hF76.s 12 10 4 (List.mem_of_getElem? (i := 7) rfl)) (by decide) (by decide) ?_
  refine r_iincN (n := 1) hX [(0, .ref (L73.1 0)), (1, .int (nI 4))] dX10_init_175 rfl hN1 rfl ?_
  refine r_goto hX dX10_init_178 ?_
  refine r_iload_n hX dX10_init_163 rfl ?_
  refine r_iconst hX (nI 4) dX10_init_164 rfl ?_
  refine r_icmpN_ge hX dX10_init_165 (by decide) (by decide) (fun c81 => ?_) (fun c81 => absurd c81 (by decide))
  exact r_return hX hQ dX10_init_181 ⟨Nat.le_of_ble_eq_true rfl, Nat.le_of_ble_eq_true rfl⟩ (PN.mk ⟨hF76, ((hNw74.1 0 (by decide)).1).trans (((hNw70.1 0 (by decide)).1).trans (((hNw66.1 0 (by decide)).1).trans (((hNw62.1 0 (by decide)).1).trans (((hNw58.1 0 (by decide)).1).trans (((hNw54.1 0 (by decide)).1).trans (((hNw50.1 0 (by decide)).1).trans (((hNw46.1 0 (by decide)).1).trans (((hNw42.1 0 (by decide)).1).trans (((hNw38.1 0 (by decide)).1).trans (((hNw34.1 0 (by decide)).1).trans (((hNw30.1 0 (by decide)).1).trans (((hNw26.1 0 (by decide)).1).trans (((hNw22.1 0 (by decide)).1).trans (((hNw18.1 0 (by decide)).1).trans (((hNw14.1 0 (by decide)).1).trans (((hNw10.1 0 (by decide)).1).trans (((hNw6.1 0 (by decide)).1).trans (((hNw2.1 0 (by decide)).1).trans (rfl))))))))))))))))))), ((hNw74.1 100 (by decide)).1).trans (((hNw70.1 100 (by decide)).1).trans (((hNw66.1 100 (by decide)).1).trans (((hNw62.1 100 (by decide)).1).trans (((hNw58.1 100 (by decide)).1).trans (((hNw54.1 100 (by decide)).1).trans (((hNw50.1 100 (by decide)).1).trans (((hNw46.1 100 (by decide)).1).trans (((hNw42.1 100 (by decide)).1).trans (((hNw38.1 100 (by decide)).1).trans (((hNw34.1 100 (by decide)).1).trans (((hNw30.1 100 (by decide)).1).trans (((hNw26.1 100 (by decide)).1).trans (((hNw22.1 100 (by decide)).1).trans (((hNw18.1 100 (by decide)).1).trans (((hNw14.1 100 (by decide)).1).trans (((hNw10.1 100 (by decide)).1).trans (((hNw6.1 100 (by decide)).1).trans (((hNw2.1 100 (by decide)).1).trans (rfl))))))))))))))))))), (by show _ = _; rw [up_n (by omega), up_n (by omega), up_n (by omega), up_n (by omega), up_s] <;> rfl), fun i hi => (by show _ = _; rw [up_n (by omega), up_n (by omega), up_n (by omega), up_n (by omega), up_n (by omega), zr_n (by omega), zr_n (by omega), zr_n (by omega), zr_n (by omega), zr_n (by omega), zr_n (by omega), zr_n (by omega), zr_n (by omega), zr_n (by omega), zr_n (by omega), zr_n (by omega), zr_n (by omega), zr_n (by omega), zr_n (by omega), zr_n (by omega), zr_n (by omega), zr_n (by omega), zr_n (by omega), zr_s] <;> rfl), (fun d i h1 h2 h3 => by rcases (show d = 2 ∨ d = 3 ∨ d = 4 ∨ d = 5 ∨ d = 6 ∨ d = 7 ∨ d = 8 ∨ d = 9 ∨ d = 10 ∨ d = 11 ∨ d = 13 ∨ d = 14 ∨ d = 15 ∨ d = 16 ∨ d = 17 ∨ d = 18 ∨ d = 19 from by omega) with rfl | rfl | rfl | rfl | rfl | rfl | rfl | rfl | rfl | rfl | rfl | rfl | rfl | rfl | rfl | rfl | rfl; exact (by show _ = _; rw [up_n (by omega), up_n (by omega), up_n (by omega), up_n (by omega), up_n (by omega), zr_n (by omega), zr_n (by omega), zr_n (by omega), zr_n (by omega), zr_n (by omega), zr_n (by omega), zr_n (by omega), zr_n (by omega), zr_n (by omega), zr_n (by omega), zr_n (by omega), zr_n (by omega), zr_n (by omega), zr_n (by omega), zr_n (by omega), zr_n (by omega), zr_n (by omega), zr_s] <;> rfl); exact (by show _ = _; rw [up_n (by omega), up_n (by omega), up_n (by omega), up_n (by omega), up_n (by omega), zr_n (by omega), zr_n (by omega), zr_n (by omega), zr_n (by omega), zr_n (by omega), zr_n (by omega), zr_n (by omega), zr_n (by omega), zr_n (by omega), zr_n (by omega), zr_n (by omega), zr_n (by omega), zr_n (by omega), zr_n (by omega), zr_n (by omega), zr_n (by omega), zr_s] <;> rfl); exact (by show _ = _; rw [up_n (by omega), up_n (by omega), up_n (by omega), up_n (by omega), up_n (by omega), zr_n (by omega), zr_n (by omega), zr_n (by omega), zr_n (by omega), zr_n (by omega), zr_n (by omega), zr_n (by omega), zr_n (by omega), zr_n (by omega), zr_n (by omega), zr_n (by omega), zr_n (by omega), zr_n (by omega), zr_n (by omega), zr_n (by omega), zr_s] <;> rfl); exact (by show _ = _; rw [up_n (by omega), up_n (by omega), up_n (by omega), up_n (by omega), up_n (by omega), zr_n (by omega), zr_n (by omega), zr_n (by omega), zr_n (by omega), zr_n (by omega), zr_n (by omega), zr_n (by omega), zr_n (by omega), zr_n (by omega), zr_n (by omega), zr_n (by omega), zr_n (by omega), zr_n (by omega), zr_n (by omega), zr_s] <;> rfl); exact (by show _ = _; rw [up_n (by omega), up_n (by omega), up_n (by omega), up_n (by omega), up_n (by omega), zr_n (by omega), zr_n (by omega), zr_n (by omega), zr_n (by omega), zr_n (by omega), zr_n (by omega), zr_n (by omega), zr_n (by omega), zr_n (by omega), zr_n (by omega), zr_n (by omega), zr_n (by omega), zr_n (by omega), zr_s] <;> rfl); exact (by show _ = _; rw [up_n (by omega), up_n (by omega), up_n (by omega), up_n (by omega), up_n (by omega), zr_n (by omega), zr_n (by omega), zr_n (by omega), zr_n (by omega), zr_n (by omega), zr_n (by omega), zr_n (by omega), zr_n (by omega), zr_n (by omega), zr_n (by omega), zr_n (by omega), zr_n (by omega), zr_s] <;> rfl); exact (by show _ = _; rw [up_n (by omega), up_n (by omega), up_n (by omega), up_n (by omega), up_n (by omega), zr_n (by omega), zr_n (by omega), zr_n (by omega), zr_n (by omega), zr_n (by omega), zr_n (by omega), zr_n (by omega), zr_n (by omega), zr_n (by omega), zr_n (by omega), zr_n (by omega), zr_s] <;> rfl); exact (by show _ = _; rw [up_n (by omega), up_n (by omega), up_n (by omega), up_n (by omega), up_n (by omega), zr_n (by omega), zr_n (by omega), zr_n (by omega), zr_n (by omega), zr_n (by omega), zr_n (by omega), zr_n (by omega), zr_n (by omega), zr_n (by omega), zr_n (by omega), zr_s] <;> rfl); exact (by show _ = _; rw [up_n (by omega), up_n (by omega), up_n (by omega), up_n (by omega), up_n (by omega), zr_n (by omega), zr_n (by omega), zr_n (by omega), zr_n (by omega), zr_n (by omega), zr_n (by omega), zr_n (by omega), zr_n (by omega), zr_n (by omega), zr_s] <;> rfl); exact (by show _ = _; rw [up_n (by omega), up_n (by omega), up_n (by omega), up_n (by omega), up_n (by omega), zr_n (by omega), zr_n (by omega), zr_n (by omega), zr_n (by omega), zr_n (by omega), zr_n (by omega), zr_n (by omega), zr_n (by omega), zr_s] <;> rfl); exact (by show _ = _; rw [up_n (by omega), up_n (by omega), up_n (by omega), up_n (by omega), up_n (by omega), zr_n (by omega), zr_n (by omega), zr_n (by omega), zr_n (by omega), zr_n (by omega), zr_n (by omega), zr_s] <;> rfl); exact (by show _ = _; rw [up_n (by omega), up_n (by omega), up_n (by omega), up_n (by omega), up_n (by omega), zr_n (by omega), zr_n (by omega), zr_n (by omega), zr_n (by omega), zr_n (by omega), zr_s] <;> rfl); exact (by show _ = _; rw [up_n (by omega), up_n (by omega), up_n (by omega), up_n (by omega), up_n (by omega), zr_n (by omega), zr_n (by omega), zr_n (by omega), zr_n (by omega), zr_s] <;> rfl); exact (by show _ = _; rw [up_n (by omega), up_n (by omega), up_n (by omega), up_n (by omega), up_n (by omega), zr_n (by omega), zr_n (by omega), zr_n (by omega), zr_s] <;> rfl); exact (by show _ = _; rw [up_n (by omega), up_n (by omega), up_n (by omega), up_n (by omega), up_n (by omega), zr_n (by omega), zr_n (by omega), zr_s] <;> rfl); exact (by show _ = _; rw [up_n (by omega), up_n (by omega), up_n (by omega), up_n (by omega), up_n (by omega), zr_n (by omega), zr_s] <;> rfl); exact (by show _ = _; rw [up_n (by omega), up_n (by omega), up_n (by omega), up_n (by omega), up_n (by omega), zr_s] <;> rfl)), ⟨(by show _ = _; rw [up_n (by omega), up_n (by omega), up_n (by omega), up_s] <;> rfl), (by show _ = _; rw [up_n (by omega), up_n (by omega), up_s] <;> rfl), (by show _ = _; rw [up_n (by omega), up_s] <;> rfl), (by show _ = _; rw [up_s] <;> rfl)⟩, fun d i hd => (by show _ = _; rw [up_n (by omega), up_n (by omega), up_n (by omega), up_n (by omega), up_n (by omega), zr_n (by omega), zr_n (by omega), zr_n (by omega), zr_n (by omega), zr_n (by omega), zr_n (by omega), zr_n (by omega), zr_n (by omega), zr_n (by omega), zr_n (by omega), zr_n (by omega), zr_n (by omega), zr_n (by omega), zr_n (by omega), zr_n (by omega), zr_n (by omega), zr_n (by omega), zr_n (by omega), zr_n (by omega)] <;> rfl)⟩)
