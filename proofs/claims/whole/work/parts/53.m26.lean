set_option maxHeartbeats 4000000 in
set_option maxRecDepth 100000 in
theorem c_X10_told_ {l : Launch} {D : Ds} {L : La} (hM : MAt L) (σ : Me) (B : Bs) (hB : RB σ B) (q : Nat) (hq : q < 4) : Ct l yX10_told_ cX10_told_ 3 (some .int) { frames := 2, cells := 0, slots := 0, locals := 42 } D L σ [.ref (L.1 0), .int (nI q)] (PF L σ (nI (tdN B q))) := by
  refine Ct.of (by decide) (Nat.le_of_ble_eq_true rfl) ?_
  intro X hl hD hnl hX0 hQ
  have hX : Ok X cX10_told_ RX10 "told" { frames := 2, cells := 0, slots := 0, locals := 42 } (some .int) := hX0
  have hN2 : 2 < xn X := by rw [hnl]; decide
  have hz := (hB q hq).2.2.1
  show At X L σ 0 0 [(0, .ref (L.1 0)), (1, .int (nI q))] 0 []
  refine r_iconst hX (nI 0) dX10_told__0 rfl ?_
  refine r_istore_n hX [(0, .ref (L.1 0)), (1, .int (nI q)), (2, .int (nI 0))] dX10_told__1 hN2 rfl ?_
  have P1 : ∀ k, k ≤ B.2.1 q → ∀ (hpk : pfx (fun i => atB (B.2.2 q i)) k = k), At X L σ 0 0 [(0, .ref (L.1 0)), (1, .int (nI q)), (2, .int (nI k))] 2 [] := by
    refine loopUp (B.2.1 q) ?_ ?_
    · skip
      intro hpk
      refine r_iload_n hX dX10_told__2 rfl ?_
      refine r_aload_n hX dX10_told__3 rfl ?_
      refine r_getR hX dX10_told__4 fl_X10_47 (hM.1 0 (9, 0) rfl) rfl (hM.2 36 13 rfl) ?_
      refine r_iload_n hX dX10_told__7 rfl ?_
      refine r_aldN hX dX10_told__8 (hM.1 13 (10, 4) rfl) (by decide) (by omega) (nI (B.2.1 q)) (hB q (by omega)).2.1 ?_
      refine r_icmpN_ge hX dX10_told__9 (by omega) (by omega) (fun c2 => ?_) (fun c2 => absurd c2 (by omega))
      refine r_iload_n hX dX10_told__35 rfl ?_
      exact r_ireturn hX hQ dX10_told__36 ⟨Nat.le_of_ble_eq_true rfl, Nat.le_of_ble_eq_true rfl⟩ (PF.mk (by rw [tdN, hpk]))
    · skip
      intro k hk ih3 hpk
      refine r_iload_n hX dX10_told__2 rfl ?_
      refine r_aload_n hX dX10_told__3 rfl ?_
      refine r_getR hX dX10_told__4 fl_X10_47 (hM.1 0 (9, 0) rfl) rfl (hM.2 36 13 rfl) ?_
      refine r_iload_n hX dX10_told__7 rfl ?_
      refine r_aldN hX dX10_told__8 (hM.1 13 (10, 4) rfl) (by decide) (by omega) (nI (B.2.1 q)) (hB q (by omega)).2.1 ?_
      refine r_icmpN_ge hX dX10_told__9 (by omega) (by omega) (fun c4 => absurd c4 (by omega)) (fun c4 => ?_)
      refine r_aload_n hX dX10_told__12 rfl ?_
      refine r_getR hX dX10_told__13 fl_X10_50 (hM.1 0 (9, 0) rfl) rfl (hM.2 37 14 rfl) ?_
      refine r_bipush hX (nI 24) dX10_told__16 rfl ?_
      refine r_iload_n hX dX10_told__18 rfl ?_
      refine r_imulN hX dX10_told__19 ?_
      refine r_iload_n hX dX10_told__20 rfl ?_
      refine r_iaddN hX dX10_told__21 ?_
      refine r_aldN hX dX10_told__22 (hM.1 14 (10, 96) rfl) (by decide) (by omega) (B.2.2 q k) ((hB q (by omega)).2.2.2 k (by omega)) ?_
      refine r_callSF (As := [.int (B.2.2 q k)]) (rest := []) hX (c_X10_isAt σ (B.2.2 q k)) dX10_told__23 cb_X10_96 rfl rfl ⟨Nat.le_of_ble_eq_true rfl, Nat.le_of_ble_eq_true rfl⟩ ⟨Nat.le_of_ble_eq_true rfl, Nat.le_of_ble_eq_true rfl⟩ (Nat.le_of_ble_eq_true rfl) ?_
      refine r_ifB_eq hX dX10_told__26 (fun c5 => ?_) (fun c5 => ?_)
      · skip
        refine r_iload_n hX dX10_told__35 rfl ?_
        exact r_ireturn hX hQ dX10_told__36 ⟨Nat.le_of_ble_eq_true rfl, Nat.le_of_ble_eq_true rfl⟩ (PF.mk (by rw [tdN, pfx_no hpk c5 _ (Nat.le_of_lt hk)]))
      · skip
        refine r_iincN (n := 1) hX [(0, .ref (L.1 0)), (1, .int (nI q)), (2, .int (nI (k + 1)))] dX10_told__29 rfl hN2 rfl ?_
        refine r_goto hX dX10_told__32 ?_
        exact At.to (ih3 (pfx_s hpk c5)) rfl rfl rfl
  exact At.to (P1 0 (Nat.zero_le _) rfl) rfl rfl rfl
