set_option maxHeartbeats 4000000 in
set_option maxRecDepth 100000 in
theorem c_X3_placeOf {l : Launch} {D : Ds} {L : La}  (b : Nat) (hC : RAt L b) (σ : Me) (A : Al) (h0 : R0 σ b A) (hW : RW σ b A) (hTx : RX' L σ b A) (hV : Va A) (V : Nat → Int32) (hSh : ∀ i, i < aT A → σ (b + 7) i = V i) (th : Nat) (hth : th < aT A) : Ct l yX3_placeOf cX3_placeOf 4 (some .int) { frames := 0, cells := 0, slots := 0, locals := 0 } D L σ [.ref (L.1 (b + 0)), .int (nI th)] (PF L σ (nI (ahd V th (aT A)))) := by
  refine Ct.of (by decide) (Nat.le_of_ble_eq_true rfl) ?_
  intro X hl hD hnl hX0 hQ
  have hX : Ok X cX3_placeOf RX3 "placeOf" { frames := 0, cells := 0, slots := 0, locals := 0 } (some .int) := hX0
  have hN2 : 2 < xn X := by rw [hnl]; decide
  have hN3 : 3 < xn X := by rw [hnl]; decide
  have hbb := hC.2.2
  have hW24 := hV.2.2.1
  have hT6 := hV.1
  have hN12 := hV.2.1
  have hX14 := hV.2.2.2.1
  show At X L σ 0 0 [(0, .ref (L.1 (b + 0))), (1, .int (nI th))] 0 []
  refine r_iconst hX (nI 0) dX3_placeOf_0 rfl ?_
  refine r_istore_n hX [(0, .ref (L.1 (b + 0))), (1, .int (nI th)), (2, .int (nI 0))] dX3_placeOf_1 hN2 rfl ?_
  refine r_iconst hX (nI 0) dX3_placeOf_2 rfl ?_
  refine r_istore_n hX [(0, .ref (L.1 (b + 0))), (1, .int (nI th)), (2, .int (nI 0)), (3, .int (nI 0))] dX3_placeOf_3 hN3 rfl ?_
  have P1 : ∀ k, k ≤ aT A → At X L σ 0 0 [(0, .ref (L.1 (b + 0))), (1, .int (nI th)), (2, .int (nI (ahd V th k))), (3, .int (nI k))] 4 [] := by
    refine loopUp (aT A) ?_ ?_
    · skip
      refine r_iload_n hX dX3_placeOf_4 rfl ?_
      refine r_aload_n hX dX3_placeOf_5 rfl ?_
      refine r_getIV hX dX3_placeOf_6 fl_X3_9 (hC.1 0 (2, 0) rfl) rfl (nI (aT A)) h0.1 ?_
      refine r_icmpN_ge hX dX3_placeOf_9 (by omega) (by omega) (fun c2 => ?_) (fun c2 => absurd c2 (by omega))
      refine r_iload_n hX dX3_placeOf_56 rfl ?_
      exact r_ireturn hX hQ dX3_placeOf_57 ⟨Nat.le_of_ble_eq_true rfl, Nat.le_of_ble_eq_true rfl⟩ (PF.mk rfl)
    · skip
      intro k hk ih3
      refine r_iload_n hX dX3_placeOf_4 rfl ?_
      refine r_aload_n hX dX3_placeOf_5 rfl ?_
      refine r_getIV hX dX3_placeOf_6 fl_X3_9 (hC.1 0 (2, 0) rfl) rfl (nI (aT A)) h0.1 ?_
      refine r_icmpN_ge hX dX3_placeOf_9 (by omega) (by omega) (fun c4 => absurd c4 (by omega)) (fun c4 => ?_)
      refine r_aload_n hX dX3_placeOf_12 rfl ?_
      refine r_getR hX dX3_placeOf_13 fl_X3_50 (hC.1 0 (2, 0) rfl) rfl (hC.2.1 0 10 7 rfl) ?_
      refine r_iload_n hX dX3_placeOf_16 rfl ?_
      refine r_aldN hX dX3_placeOf_17 (hC.1 7 (10, 6) rfl) (by decide) (by omega) (V k) (hSh k (by omega)) ?_
      refine r_aload_n hX dX3_placeOf_18 rfl ?_
      refine r_getR hX dX3_placeOf_19 fl_X3_50 (hC.1 0 (2, 0) rfl) rfl (hC.2.1 0 10 7 rfl) ?_
      refine r_iload_n hX dX3_placeOf_22 rfl ?_
      refine r_aldN hX dX3_placeOf_23 (hC.1 7 (10, 6) rfl) (by decide) (by omega) (V th) (hSh th (by omega)) ?_
      refine r_icmp_gt hX dX3_placeOf_24 (fun c5 => ?_) (fun c5 => ?_)
      · skip
        refine r_iincN (n := 1) hX [(0, .ref (L.1 (b + 0))), (1, .int (nI th)), (2, .int (nI (ahd V th k + 1))), (3, .int (nI k))] dX3_placeOf_47 rfl hN2 rfl ?_
        refine r_iincN (n := 1) hX [(0, .ref (L.1 (b + 0))), (1, .int (nI th)), (2, .int (nI (ahd V th k + 1))), (3, .int (nI (k + 1)))] dX3_placeOf_50 rfl hN3 rfl ?_
        refine r_goto hX dX3_placeOf_53 ?_
        have q6 : ahd V th (k + 1) = ahd V th k + 1 := (by rw [ahd, if_pos (Or.inl c5)])
        exact At.to ih3 (by rw [q6]) rfl rfl
      · skip
        refine r_aload_n hX dX3_placeOf_27 rfl ?_
        refine r_getR hX dX3_placeOf_28 fl_X3_50 (hC.1 0 (2, 0) rfl) rfl (hC.2.1 0 10 7 rfl) ?_
        refine r_iload_n hX dX3_placeOf_31 rfl ?_
        refine r_aldN hX dX3_placeOf_32 (hC.1 7 (10, 6) rfl) (by decide) (by omega) (V k) (hSh k (by omega)) ?_
        refine r_aload_n hX dX3_placeOf_33 rfl ?_
        refine r_getR hX dX3_placeOf_34 fl_X3_50 (hC.1 0 (2, 0) rfl) rfl (hC.2.1 0 10 7 rfl) ?_
        refine r_iload_n hX dX3_placeOf_37 rfl ?_
        refine r_aldN hX dX3_placeOf_38 (hC.1 7 (10, 6) rfl) (by decide) (by omega) (V th) (hSh th (by omega)) ?_
        refine r_icmp_ne hX dX3_placeOf_39 (fun c7 => ?_) (fun c7 => ?_)
        · skip
          refine r_iincN (n := 1) hX [(0, .ref (L.1 (b + 0))), (1, .int (nI th)), (2, .int (nI (ahd V th k))), (3, .int (nI (k + 1)))] dX3_placeOf_50 rfl hN3 rfl ?_
          refine r_goto hX dX3_placeOf_53 ?_
          have q8 : ahd V th (k + 1) = ahd V th k := (by rw [ahd, if_neg (fun q => q.elim c5 (fun q => c7 q.1))]; try rfl)
          exact At.to ih3 (by rw [q8]) rfl rfl
        · skip
          refine r_iload_n hX dX3_placeOf_42 rfl ?_
          refine r_iload_n hX dX3_placeOf_43 rfl ?_
          refine r_icmpN_ge hX dX3_placeOf_44 (by omega) (by omega) (fun c9 => ?_) (fun c9 => ?_)
          · skip
            refine r_iincN (n := 1) hX [(0, .ref (L.1 (b + 0))), (1, .int (nI th)), (2, .int (nI (ahd V th k))), (3, .int (nI (k + 1)))] dX3_placeOf_50 rfl hN3 rfl ?_
            refine r_goto hX dX3_placeOf_53 ?_
            have q10 : ahd V th (k + 1) = ahd V th k := (by rw [ahd, if_neg (fun q => q.elim c5 (fun q => absurd q.2 (by omega)))]; try rfl)
            exact At.to ih3 (by rw [q10]) rfl rfl
          · skip
            refine r_iincN (n := 1) hX [(0, .ref (L.1 (b + 0))), (1, .int (nI th)), (2, .int (nI (ahd V th k + 1))), (3, .int (nI k))] dX3_placeOf_47 rfl hN2 rfl ?_
            refine r_iincN (n := 1) hX [(0, .ref (L.1 (b + 0))), (1, .int (nI th)), (2, .int (nI (ahd V th k + 1))), (3, .int (nI (k + 1)))] dX3_placeOf_50 rfl hN3 rfl ?_
            refine r_goto hX dX3_placeOf_53 ?_
            have q11 : ahd V th (k + 1) = ahd V th k + 1 := (by rw [ahd, if_pos (Or.inr ⟨c7, c9⟩)])
            exact At.to ih3 (by rw [q11]) rfl rfl
  exact At.to (P1 0 (Nat.zero_le _)) rfl rfl rfl

set_option maxHeartbeats 4000000 in
set_option maxRecDepth 100000 in
theorem c_X3_atPlace {l : Launch} {D : Ds} {L : La}  (b : Nat) (hC : RAt L b) (σ : Me) (A : Al) (h0 : R0 σ b A) (hW : RW σ b A) (hTx : RX' L σ b A) (hV : Va A) (V : Nat → Int32) (hSh : ∀ i, i < aT A → σ (b + 7) i = V i) (p : Nat) (hp : p < 2 ^ 31) : Ct l yX3_atPlace cX3_atPlace 3 (some .int) { frames := 1, cells := 0, slots := 0, locals := 23 } D L σ [.ref (L.1 (b + 0)), .int (nI p)] (PF L σ (shf V (aT A) (nI p) (aT A))) := by
  refine Ct.of (by decide) (Nat.le_of_ble_eq_true rfl) ?_
  intro X hl hD hnl hX0 hQ
  have hX : Ok X cX3_atPlace RX3 "atPlace" { frames := 1, cells := 0, slots := 0, locals := 23 } (some .int) := hX0
  have hN2 : 2 < xn X := by rw [hnl]; decide
  have hbb := hC.2.2
  have hW24 := hV.2.2.1
  have hT6 := hV.1
  have hN12 := hV.2.1
  have hX14 := hV.2.2.2.1
  show At X L σ 0 0 [(0, .ref (L.1 (b + 0))), (1, .int (nI p))] 0 []
  refine r_iconst hX (nI 0) dX3_atPlace_0 rfl ?_
  refine r_istore_n hX [(0, .ref (L.1 (b + 0))), (1, .int (nI p)), (2, .int (nI 0))] dX3_atPlace_1 hN2 rfl ?_
  have P1 : ∀ k, k ≤ aT A → ∀ (hno : ∀ u, u < k → ¬ ahd V u (aT A) = p), At X L σ 0 0 [(0, .ref (L.1 (b + 0))), (1, .int (nI p)), (2, .int (nI k))] 2 [] := by
    refine loopUp (aT A) ?_ ?_
    · skip
      intro hno
      refine r_iload_n hX dX3_atPlace_2 rfl ?_
      refine r_aload_n hX dX3_atPlace_3 rfl ?_
      refine r_getIV hX dX3_atPlace_4 fl_X3_9 (hC.1 0 (2, 0) rfl) rfl (nI (aT A)) h0.1 ?_
      refine r_icmpN_ge hX dX3_atPlace_7 (by omega) (by omega) (fun c2 => ?_) (fun c2 => absurd c2 (by omega))
      refine r_ldc hX dX3_atPlace_27 ko_X3_124 ?_
      exact r_ireturn hX hQ dX3_atPlace_29 ⟨Nat.le_of_ble_eq_true rfl, Nat.le_of_ble_eq_true rfl⟩ (PF.mk (shf_no hp (by omega) _ hno).symm)
    · skip
      intro k hk ih3 hno
      refine r_iload_n hX dX3_atPlace_2 rfl ?_
      refine r_aload_n hX dX3_atPlace_3 rfl ?_
      refine r_getIV hX dX3_atPlace_4 fl_X3_9 (hC.1 0 (2, 0) rfl) rfl (nI (aT A)) h0.1 ?_
      refine r_icmpN_ge hX dX3_atPlace_7 (by omega) (by omega) (fun c4 => absurd c4 (by omega)) (fun c4 => ?_)
      refine r_aload_n hX dX3_atPlace_10 rfl ?_
      refine r_iload_n hX dX3_atPlace_11 rfl ?_
      refine r_callVF (As := [.int (nI k)]) (rest := []) hX (c_X3_placeOf b hC σ A h0 hW hTx hV V hSh k (by omega)) dX3_atPlace_12 cb_X3_135 (hC.1 0 (2, 0) rfl) rfl rfl ⟨Nat.le_of_ble_eq_true rfl, Nat.le_of_ble_eq_true rfl⟩ ⟨Nat.le_of_ble_eq_true rfl, Nat.le_of_ble_eq_true rfl⟩ (Nat.le_of_ble_eq_true rfl) ?_
      refine r_iload_n hX dX3_atPlace_15 rfl ?_
      refine r_icmpN_ne hX dX3_atPlace_16 (by first | omega | (have := ahd_le V k (aT A); omega)) (by first | omega | (have := ahd_le V k (aT A); omega)) (fun c5 => ?_) (fun c5 => ?_)
      · skip
        refine r_iincN (n := 1) hX [(0, .ref (L.1 (b + 0))), (1, .int (nI p)), (2, .int (nI (k + 1)))] dX3_atPlace_21 rfl hN2 rfl ?_
        refine r_goto hX dX3_atPlace_24 ?_
        exact At.to (ih3 (fun u hu => if e : u = k then (by rw [e]; exact c5) else hno u (by omega))) rfl rfl rfl
      · skip
        refine r_iload_n hX dX3_atPlace_19 rfl ?_
        exact r_ireturn hX hQ dX3_atPlace_20 ⟨Nat.le_of_ble_eq_true rfl, Nat.le_of_ble_eq_true rfl⟩ (PF.mk (shf_is hp (by omega) hk c5 _ hk (Nat.le_refl _)).symm)
  exact At.to (P1 0 (Nat.zero_le _) (fun u hu => absurd hu (Nat.not_lt_zero u))) rfl rfl rfl

set_option maxHeartbeats 4000000 in
set_option maxRecDepth 100000 in
theorem c_X3_fillSigns {l : Launch} {D : Ds} {L : La}  (b : Nat) (hC : RAt L b) (σ : Me) (A : Al) (h0 : R0 σ b A) (hW : RW σ b A) (hTx : RX' L σ b A) (hV : Va A) : Ct l yX3_fillSigns cX3_fillSigns 2 none { frames := 3, cells := 0, slots := 0, locals := 73 } D L σ [.ref (L.1 (b + 0))] (PV L (fun σ2 => (∀ i, i < aW A → σ2 (b + 8) i = nI (sgN A i)) ∧ Cs σ σ2)) := by
  refine Ct.of (by decide) (Nat.le_of_ble_eq_true rfl) ?_
  intro X hl hD hnl hX0 hQ
  have hX : Ok X cX3_fillSigns RX3 "fillSigns" { frames := 3, cells := 0, slots := 0, locals := 73 } none := hX0
  have hN1 : 1 < xn X := by rw [hnl]; decide
  have hbb := hC.2.2
  have hW24 := hV.2.2.1
  have hT6 := hV.1
  have hN12 := hV.2.1
  have hX14 := hV.2.2.2.1
  show At X L σ 0 0 [(0, .ref (L.1 (b + 0)))] 0 []
  refine r_iconst hX (nI 0) dX3_fillSigns_0 rfl ?_
  refine r_istore_n hX [(0, .ref (L.1 (b + 0))), (1, .int (nI 0))] dX3_fillSigns_1 hN1 rfl ?_
  have P1 : ∀ k, k ≤ aW A → ∀ (σk : Me) (hSk : Cs σ σk) (hSg : ∀ i, i < k → σk (b + 8) i = nI (sgN A i)), At X L σk 0 0 [(0, .ref (L.1 (b + 0))), (1, .int (nI k))] 2 [] := by
    refine loopUp (aW A) ?_ ?_
    · skip
      intro σk hSk hSg
      have g0 := h0.cs hC hSk
      have gW := hW.cs hC hSk
      have gX := hTx.cs hSk
      refine r_iload_n hX dX3_fillSigns_2 rfl ?_
      refine r_aload_n hX dX3_fillSigns_3 rfl ?_
      refine r_getR hX dX3_fillSigns_4 fl_X3_31 (hC.1 0 (2, 0) rfl) rfl (hC.2.1 0 5 4 rfl) ?_
      refine r_getIV hX dX3_fillSigns_7 fl_X3_112 (hC.1 4 (7, 0) rfl) rfl (nI (aW A)) gW.1 ?_
      refine r_icmpN_ge hX dX3_fillSigns_10 (by omega) (by omega) (fun c2 => ?_) (fun c2 => absurd c2 (by omega))
      exact r_return hX hQ dX3_fillSigns_30 ⟨Nat.le_of_ble_eq_true rfl, Nat.le_of_ble_eq_true rfl⟩ (PV.mk ⟨hSg, hSk⟩)
    · skip
      intro k hk ih3 σk hSk hSg
      have g0 := h0.cs hC hSk
      have gW := hW.cs hC hSk
      have gX := hTx.cs hSk
      refine r_iload_n hX dX3_fillSigns_2 rfl ?_
      refine r_aload_n hX dX3_fillSigns_3 rfl ?_
      refine r_getR hX dX3_fillSigns_4 fl_X3_31 (hC.1 0 (2, 0) rfl) rfl (hC.2.1 0 5 4 rfl) ?_
      refine r_getIV hX dX3_fillSigns_7 fl_X3_112 (hC.1 4 (7, 0) rfl) rfl (nI (aW A)) gW.1 ?_
      refine r_icmpN_ge hX dX3_fillSigns_10 (by omega) (by omega) (fun c4 => absurd c4 (by omega)) (fun c4 => ?_)
      refine r_aload_n hX dX3_fillSigns_13 rfl ?_
      refine r_getR hX dX3_fillSigns_14 fl_X3_53 (hC.1 0 (2, 0) rfl) rfl (hC.2.1 0 11 8 rfl) ?_
      refine r_iload_n hX dX3_fillSigns_17 rfl ?_
      refine r_aload_n hX dX3_fillSigns_18 rfl ?_
      refine r_iload_n hX dX3_fillSigns_19 rfl ?_
      refine r_callVI (As := [.int (nI k)]) (rest := [.int (nI k), .ref (L.1 (b + 8))]) hX (c_X3_signOf b hC σk A g0 gW gX hV k (by omega)) dX3_fillSigns_20 cb_X3_138 (hC.1 0 (2, 0) rfl) rfl rfl ⟨Nat.le_of_ble_eq_true rfl, Nat.le_of_ble_eq_true rfl⟩ ⟨Nat.le_of_ble_eq_true rfl, Nat.le_of_ble_eq_true rfl⟩ (Nat.le_of_ble_eq_true rfl) (fun r5 σ6 h7 => ?_)
      obtain ⟨rfl, hS8⟩ := h7
      have g010 := R0.cs g0 hC hS8.cs
      have gW11 := RW.cs gW hC hS8.cs
      have gX12 := RX'.cs gX hS8.cs
      refine r_astN hX dX3_fillSigns_23 (hC.1 8 (10, 24) rfl) (by decide) (by omega) ?_
      refine r_iincN (n := 1) hX [(0, .ref (L.1 (b + 0))), (1, .int (nI (k + 1)))] dX3_fillSigns_24 rfl hN1 rfl ?_
      refine r_goto hX dX3_fillSigns_27 ?_
      exact At.to (ih3 _ (Cs.up (Cs.tr hSk hS8.cs) (by unfold sc; omega)) (fun i hi => if e : i = k then (by rw [e, up_s]) else (by rw [up_n (by omega)]; exact (hS8 (b + 8) i (by omega)).trans (hSg i (by omega))))) rfl rfl rfl
  exact At.to (P1 0 (Nat.zero_le _) σ (Cs.rf σ) (fun i hi => absurd hi (Nat.not_lt_zero i))) rfl rfl rfl

set_option maxHeartbeats 4000000 in
set_option maxRecDepth 100000 in
theorem c_X3_takenOff {l : Launch} {D : Ds} {L : La}  (ka : Nat) (hK : KS D ka) (b : Nat) (hC : RAt L b) (σ : Me) (A : Al) (h0 : R0 σ b A) (hW : RW σ b A) (hTx : RX' L σ b A) (hV : Va A) (hSg : ∀ i, i < aW A → σ (b + 8) i = nI (sgN A i)) (v z : Nat) (hv : v ≤ 10) (hz : z ≤ 1) : Ct l yX3_takenOff cX3_takenOff 5 (some .int) { frames := 2, cells := 0, slots := 0, locals := 43 } D L σ [.ref (L.1 (b + 0)), .int (nI v), .int (nI z)] (PF L σ (nI (ctN A v z (aW A)))) := by
  refine Ct.of (by decide) (Nat.le_of_ble_eq_true rfl) ?_
  intro X hl hD hnl hX0 hQ
  have hX : Ok X cX3_takenOff RX3 "takenOff" { frames := 2, cells := 0, slots := 0, locals := 43 } (some .int) := hX0
  have hN3 : 3 < xn X := by rw [hnl]; decide
  have hN4 : 4 < xn X := by rw [hnl]; decide
  have hbb := hC.2.2
  have hW24 := hV.2.2.1
  have hT6 := hV.1
  have hN12 := hV.2.1
  have hX14 := hV.2.2.2.1
  show At X L σ 0 0 [(0, .ref (L.1 (b + 0))), (1, .int (nI v)), (2, .int (nI z))] 0 []
  refine r_iconst hX (nI 0) dX3_takenOff_0 rfl ?_
  refine r_istore_n hX [(0, .ref (L.1 (b + 0))), (1, .int (nI v)), (2, .int (nI z)), (3, .int (nI 0))] dX3_takenOff_1 hN3 rfl ?_
  refine r_iconst hX (nI 0) dX3_takenOff_2 rfl ?_
  refine r_istore hX [(0, .ref (L.1 (b + 0))), (1, .int (nI v)), (2, .int (nI z)), (3, .int (nI 0)), (4, .int (nI 0))] dX3_takenOff_3 hN4 rfl ?_
  have P1 : ∀ k, k ≤ aW A → At X L σ 0 0 [(0, .ref (L.1 (b + 0))), (1, .int (nI v)), (2, .int (nI z)), (3, .int (nI (ctN A v z k))), (4, .int (nI k))] 5 [] := by
    refine loopUp (aW A) ?_ ?_
    · skip
      refine r_iload hX dX3_takenOff_5 rfl ?_
      refine r_aload_n hX dX3_takenOff_7 rfl ?_
      refine r_getR hX dX3_takenOff_8 fl_X3_31 (hC.1 0 (2, 0) rfl) rfl (hC.2.1 0 5 4 rfl) ?_
      refine r_getIV hX dX3_takenOff_11 fl_X3_112 (hC.1 4 (7, 0) rfl) rfl (nI (aW A)) hW.1 ?_
      refine r_icmpN_ge hX dX3_takenOff_14 (by omega) (by omega) (fun c2 => ?_) (fun c2 => absurd c2 (by omega))
      refine r_iload_n hX dX3_takenOff_54 rfl ?_
      exact r_ireturn hX hQ dX3_takenOff_55 ⟨Nat.le_of_ble_eq_true rfl, Nat.le_of_ble_eq_true rfl⟩ (PF.mk rfl)
    · skip
      intro k hk ih3
      have hs := sgN_le A k
      have hwf := hV.2.2.2.2.2.2.1 k hk
      refine r_iload hX dX3_takenOff_5 rfl ?_
      refine r_aload_n hX dX3_takenOff_7 rfl ?_
      refine r_getR hX dX3_takenOff_8 fl_X3_31 (hC.1 0 (2, 0) rfl) rfl (hC.2.1 0 5 4 rfl) ?_
      refine r_getIV hX dX3_takenOff_11 fl_X3_112 (hC.1 4 (7, 0) rfl) rfl (nI (aW A)) hW.1 ?_
      refine r_icmpN_ge hX dX3_takenOff_14 (by omega) (by omega) (fun c4 => absurd c4 (by omega)) (fun c4 => ?_)
      refine r_aload_n hX dX3_takenOff_17 rfl ?_
      refine r_getR hX dX3_takenOff_18 fl_X3_53 (hC.1 0 (2, 0) rfl) rfl (hC.2.1 0 11 8 rfl) ?_
      refine r_iload hX dX3_takenOff_21 rfl ?_
      refine r_aldN hX dX3_takenOff_23 (hC.1 8 (10, 24) rfl) (by decide) (by omega) (nI (sgN A k)) (hSg k (by omega)) ?_
      refine r_iload_n hX dX3_takenOff_24 rfl ?_
      refine r_icmpN_lt hX dX3_takenOff_25 (by omega) (by omega) (fun c5 => ?_) (fun c5 => ?_)
      · skip
        refine r_iincN (n := 1) hX [(0, .ref (L.1 (b + 0))), (1, .int (nI v)), (2, .int (nI z)), (3, .int (nI (ctN A v z k))), (4, .int (nI (k + 1)))] dX3_takenOff_48 rfl hN4 rfl ?_
        refine r_goto hX dX3_takenOff_51 ?_
        have q6 : ctN A v z (k + 1) = ctN A v z k := (by rw [ctN, if_neg (fun q => absurd q.1 (by omega))]; try rfl)
        exact At.to ih3 (by rw [q6]) rfl rfl
      · skip
        refine r_aload_n hX dX3_takenOff_28 rfl ?_
        refine r_getR hX dX3_takenOff_29 fl_X3_31 (hC.1 0 (2, 0) rfl) rfl (hC.2.1 0 5 4 rfl) ?_
        refine r_getR hX dX3_takenOff_32 fl_X3_100 (hC.1 4 (7, 0) rfl) rfl (hC.2.1 4 1 9 rfl) ?_
        refine r_iload hX dX3_takenOff_35 rfl ?_
        refine r_aldN hX dX3_takenOff_37 (hC.1 9 (10, 24) rfl) (by decide) (by omega) (nI (aF A k 0)) (hW.2.1 k (by omega)) ?_
        refine r_callSF (As := [.int (nI (aF A k 0))]) (rest := []) hX (by rw [hl, hD]; exact c_X1_isTrue ka hK σ (aF A k 0) (by omega)) dX3_takenOff_38 cb_X3_141 rfl rfl ⟨Nat.le_of_ble_eq_true rfl, Nat.le_of_ble_eq_true rfl⟩ ⟨Nat.le_of_ble_eq_true rfl, Nat.le_of_ble_eq_true rfl⟩ (Nat.le_of_ble_eq_true rfl) ?_
        refine r_iload_n hX dX3_takenOff_41 rfl ?_
        refine r_icmp_ne hX dX3_takenOff_42 (fun c7 => ?_) (fun c7 => ?_)
        · skip
          refine r_iincN (n := 1) hX [(0, .ref (L.1 (b + 0))), (1, .int (nI v)), (2, .int (nI z)), (3, .int (nI (ctN A v z k))), (4, .int (nI (k + 1)))] dX3_takenOff_48 rfl hN4 rfl ?_
          refine r_goto hX dX3_takenOff_51 ?_
          have q8 : ctN A v z (k + 1) = ctN A v z k := (by rw [ctN, if_neg (fun q => c7 q.2)]; try rfl)
          exact At.to ih3 (by rw [q8]) rfl rfl
        · skip
          refine r_iincN (n := 1) hX [(0, .ref (L.1 (b + 0))), (1, .int (nI v)), (2, .int (nI z)), (3, .int (nI (ctN A v z k + 1))), (4, .int (nI k))] dX3_takenOff_45 rfl hN3 rfl ?_
          refine r_iincN (n := 1) hX [(0, .ref (L.1 (b + 0))), (1, .int (nI v)), (2, .int (nI z)), (3, .int (nI (ctN A v z k + 1))), (4, .int (nI (k + 1)))] dX3_takenOff_48 rfl hN4 rfl ?_
          refine r_goto hX dX3_takenOff_51 ?_
          have q9 : ctN A v z (k + 1) = ctN A v z k + 1 := (by rw [ctN, if_pos ⟨c5, c7⟩])
          exact At.to ih3 (by rw [q9]) rfl rfl
  exact At.to (P1 0 (Nat.zero_le _)) rfl rfl rfl

set_option maxHeartbeats 4000000 in
set_option maxRecDepth 100000 in
theorem c_X3_gainOf {l : Launch} {D : Ds} {L : La}  (ka : Nat) (hK : KS D ka) (b : Nat) (hC : RAt L b) (σ : Me) (A : Al) (h0 : R0 σ b A) (hW : RW σ b A) (hTx : RX' L σ b A) (hV : Va A) (hSg : ∀ i, i < aW A → σ (b + 8) i = nI (sgN A i)) (v : Nat) (hv : v ≤ 10) : Ct l yX3_gainOf cX3_gainOf 2 (some .int) { frames := 3, cells := 0, slots := 0, locals := 67 } D L σ [.ref (L.1 (b + 0)), .int (nI v)] (PF L σ (gnI A v)) := by
  refine Ct.of (by decide) (Nat.le_of_ble_eq_true rfl) ?_
  intro X hl hD hnl hX0 hQ
  have hX : Ok X cX3_gainOf RX3 "gainOf" { frames := 3, cells := 0, slots := 0, locals := 67 } (some .int) := hX0
  have hbb := hC.2.2
  have hW24 := hV.2.2.1
  have hT6 := hV.1
  have hN12 := hV.2.1
  have hX14 := hV.2.2.2.1
  show At X L σ 0 0 [(0, .ref (L.1 (b + 0))), (1, .int (nI v))] 0 []
  refine r_aload_n hX dX3_gainOf_0 rfl ?_
  refine r_iload_n hX dX3_gainOf_1 rfl ?_
  refine r_iconst hX (nI 0) dX3_gainOf_2 rfl ?_
  refine r_callVF (As := [.int (nI v), .int (nI 0)]) (rest := []) hX (by rw [hl, hD]; exact c_X3_takenOff ka hK b hC σ A h0 hW hTx hV hSg v 0 (by omega) (by decide)) dX3_gainOf_3 cb_X3_145 (hC.1 0 (2, 0) rfl) rfl rfl ⟨Nat.le_of_ble_eq_true rfl, Nat.le_of_ble_eq_true rfl⟩ ⟨Nat.le_of_ble_eq_true rfl, Nat.le_of_ble_eq_true rfl⟩ (Nat.le_of_ble_eq_true rfl) ?_
  refine r_aload_n hX dX3_gainOf_6 rfl ?_
  refine r_iload_n hX dX3_gainOf_7 rfl ?_
  refine r_iconst hX (nI 1) dX3_gainOf_8 rfl ?_
  refine r_callVF (As := [.int (nI v), .int (nI 1)]) (rest := [.int (nI (ctN A v 0 (aW A)))]) hX (by rw [hl, hD]; exact c_X3_takenOff ka hK b hC σ A h0 hW hTx hV hSg v 1 (by omega) (by decide)) dX3_gainOf_9 cb_X3_145 (hC.1 0 (2, 0) rfl) rfl rfl ⟨Nat.le_of_ble_eq_true rfl, Nat.le_of_ble_eq_true rfl⟩ ⟨Nat.le_of_ble_eq_true rfl, Nat.le_of_ble_eq_true rfl⟩ (Nat.le_of_ble_eq_true rfl) ?_
  refine r_isub hX dX3_gainOf_12 ?_
  exact r_ireturn hX hQ dX3_gainOf_13 ⟨Nat.le_of_ble_eq_true rfl, Nat.le_of_ble_eq_true rfl⟩ (PF.mk rfl)

set_option maxHeartbeats 4000000 in
set_option maxRecDepth 100000 in
theorem c_X3_bestBound {l : Launch} {D : Ds} {L : La}  (ka : Nat) (hK : KS D ka) (b : Nat) (hC : RAt L b) (σ : Me) (A : Al) (h0 : R0 σ b A) (hW : RW σ b A) (hTx : RX' L σ b A) (hV : Va A) (hSg : ∀ i, i < aW A → σ (b + 8) i = nI (sgN A i)) : Ct l yX3_bestBound cX3_bestBound 3 (some .int) { frames := 4, cells := 0, slots := 0, locals := 88 } D L σ [.ref (L.1 (b + 0))] (PF L σ (nI (bdK A 10))) := by
  refine Ct.of (by decide) (Nat.le_of_ble_eq_true rfl) ?_
  intro X hl hD hnl hX0 hQ
  have hX : Ok X cX3_bestBound RX3 "bestBound" { frames := 4, cells := 0, slots := 0, locals := 88 } (some .int) := hX0
  have hN1 : 1 < xn X := by rw [hnl]; decide
  have hN2 : 2 < xn X := by rw [hnl]; decide
  have hbb := hC.2.2
  have hW24 := hV.2.2.1
  have hT6 := hV.1
  have hN12 := hV.2.1
  have hX14 := hV.2.2.2.1
  show At X L σ 0 0 [(0, .ref (L.1 (b + 0)))] 0 []
  refine r_bipush hX (nI 10) dX3_bestBound_0 rfl ?_
  refine r_istore_n hX [(0, .ref (L.1 (b + 0))), (1, .int (nI 10))] dX3_bestBound_2 hN1 rfl ?_
  refine r_bipush hX (nI 9) dX3_bestBound_3 rfl ?_
  refine r_istore_n hX [(0, .ref (L.1 (b + 0))), (1, .int (nI 10)), (2, .int (nI 9))] dX3_bestBound_5 hN2 rfl ?_
  have P1 : ∀ i, i ≤ 10 → At X L σ 0 0 [(0, .ref (L.1 (b + 0))), (1, .int (nI (bdK A i))), (2, .int (nI 9 - nI i))] 6 [] := by
    refine loopUp 10 ?_ ?_
    · skip
      rw [show nI 9 - nI 10 = (-1) from by decide]
      refine r_iload_n hX dX3_bestBound_6 rfl ?_
      refine r_if_lt hX dX3_bestBound_7 (fun c2 => ?_) (fun c2 => absurd c2 (by decide))
      refine r_iload_n hX dX3_bestBound_31 rfl ?_
      exact r_ireturn hX hQ dX3_bestBound_32 ⟨Nat.le_of_ble_eq_true rfl, Nat.le_of_ble_eq_true rfl⟩ (PF.mk rfl)
    · skip
      intro i hk ih3
      have hbk := bdK_le A i
      rw [pk_sub (show i ≤ 9 by omega)]
      refine r_iload_n hX dX3_bestBound_6 rfl ?_
      refine r_ifN_lt hX dX3_bestBound_7 (by omega) ?_
      refine r_aload_n hX dX3_bestBound_10 rfl ?_
      refine r_iload_n hX dX3_bestBound_11 rfl ?_
      refine r_callVF (As := [.int (nI (9 - i))]) (rest := []) hX (by rw [hl, hD]; exact c_X3_gainOf ka hK b hC σ A h0 hW hTx hV hSg (9 - i) (by omega)) dX3_bestBound_12 cb_X3_148 (hC.1 0 (2, 0) rfl) rfl rfl ⟨Nat.le_of_ble_eq_true rfl, Nat.le_of_ble_eq_true rfl⟩ ⟨Nat.le_of_ble_eq_true rfl, Nat.le_of_ble_eq_true rfl⟩ (Nat.le_of_ble_eq_true rfl) ?_
      refine r_aload_n hX dX3_bestBound_15 rfl ?_
      refine r_iload_n hX dX3_bestBound_16 rfl ?_
      refine r_callVF (As := [.int (nI (bdK A i))]) (rest := [.int (gnI A (9 - i))]) hX (by rw [hl, hD]; exact c_X3_gainOf ka hK b hC σ A h0 hW hTx hV hSg (bdK A i) (by omega)) dX3_bestBound_17 cb_X3_148 (hC.1 0 (2, 0) rfl) rfl rfl ⟨Nat.le_of_ble_eq_true rfl, Nat.le_of_ble_eq_true rfl⟩ ⟨Nat.le_of_ble_eq_true rfl, Nat.le_of_ble_eq_true rfl⟩ (Nat.le_of_ble_eq_true rfl) ?_
      refine r_icmp_le hX dX3_bestBound_20 (fun c4 => ?_) (fun c4 => ?_)
      · skip
        refine r_iinc hX (nI (9 - i) + (-1)) [(0, .ref (L.1 (b + 0))), (1, .int (nI (bdK A i))), (2, .int (nI (9 - i) + (-1)))] dX3_bestBound_25 rfl rfl hN2 rfl ?_
        refine r_goto hX dX3_bestBound_28 ?_
        have q5 : bdK A (i + 1) = bdK A i := (by rw [bdK, if_neg (show ¬ gnI A (bdK A i) < gnI A (9 - i) from Int32.not_lt.mpr c4)])
        have q6 : (nI 9 - nI (i + 1)) = (nI (9 - i) + (-1)) := (dec9 i hk)
        exact At.to ih3 (by rw [q5, q6]) rfl rfl
      · skip
        refine r_iload_n hX dX3_bestBound_23 rfl ?_
        refine r_istore_n hX [(0, .ref (L.1 (b + 0))), (1, .int (nI (9 - i))), (2, .int (nI (9 - i)))] dX3_bestBound_24 hN1 rfl ?_
        refine r_iinc hX (nI (9 - i) + (-1)) [(0, .ref (L.1 (b + 0))), (1, .int (nI (9 - i))), (2, .int (nI (9 - i) + (-1)))] dX3_bestBound_25 rfl rfl hN2 rfl ?_
        refine r_goto hX dX3_bestBound_28 ?_
        have q7 : bdK A (i + 1) = 9 - i := (by rw [bdK, if_pos (show gnI A (bdK A i) < gnI A (9 - i) from Int32.not_le.mp c4)])
        have q8 : (nI 9 - nI (i + 1)) = (nI (9 - i) + (-1)) := (dec9 i hk)
        exact At.to ih3 (by rw [q7, q8]) rfl rfl
  exact At.to (P1 0 (Nat.zero_le _)) (by rw [show nI 9 - nI 0 = nI 9 from by decide]; rfl) rfl rfl

set_option maxHeartbeats 4000000 in
set_option maxRecDepth 100000 in
theorem c_X3_takeOff {l : Launch} {D : Ds} {L : La}  (b : Nat) (hC : RAt L b) (σ : Me) (A : Al) (h0 : R0 σ b A) (hW : RW σ b A) (hTx : RX' L σ b A) (hV : Va A) (hSg : ∀ i, i < aW A → σ (b + 8) i = nI (sgN A i)) (v : Nat) (hv : v ≤ 10) : Ct l yX3_takeOff cX3_takeOff 3 (some .int) { frames := 2, cells := 0, slots := 0, locals := 46 } D L σ [.ref (L.1 (b + 0)), .int (nI v)] (PI L (fun r σ2 => r = nI (aW A - aW (dlK A v (aW A))) ∧ RC L σ2 b (dlK A v (aW A)) ∧ Cb b σ σ2)) := by
  refine Ct.of (by decide) (Nat.le_of_ble_eq_true rfl) ?_
  intro X hl hD hnl hX0 hQ
  have hX : Ok X cX3_takeOff RX3 "takeOff" { frames := 2, cells := 0, slots := 0, locals := 46 } (some .int) := hX0
  have hN2 : 2 < xn X := by rw [hnl]; decide
  have hbb := hC.2.2
  have hW24 := hV.2.2.1
  have hT6 := hV.1
  have hN12 := hV.2.1
  have hX14 := hV.2.2.2.1
  have hdk := dlK_ok hV v (aW A) (Nat.le_refl _)
  show At X L σ 0 0 [(0, .ref (L.1 (b + 0))), (1, .int (nI v))] 0 []
  refine r_aload_n hX dX3_takeOff_0 rfl ?_
  refine r_getR hX dX3_takeOff_1 fl_X3_31 (hC.1 0 (2, 0) rfl) rfl (hC.2.1 0 5 4 rfl) ?_
  refine r_getIV hX dX3_takeOff_4 fl_X3_112 (hC.1 4 (7, 0) rfl) rfl (nI (aW A)) hW.1 ?_
  refine r_istore_n hX [(0, .ref (L.1 (b + 0))), (1, .int (nI v)), (2, .int (nI (aW A)))] dX3_takeOff_7 hN2 rfl ?_
  refine r_aload_n hX dX3_takeOff_8 rfl ?_
  refine r_getR hX dX3_takeOff_9 fl_X3_31 (hC.1 0 (2, 0) rfl) rfl (hC.2.1 0 5 4 rfl) ?_
  refine r_iload_n hX dX3_takeOff_12 rfl ?_
  refine r_aload_n hX dX3_takeOff_13 rfl ?_
  refine r_getR hX dX3_takeOff_14 fl_X3_53 (hC.1 0 (2, 0) rfl) rfl (hC.2.1 0 11 8 rfl) ?_
  refine r_callVV (As := [.int (nI v), .ref (L.1 (b + 8))]) (rest := []) hX (c_X8_keepBelow b hC σ A hW hV v (by omega) hSg) dX3_takeOff_17 cb_X3_151 (hC.1 4 (7, 0) rfl) rfl rfl ⟨Nat.le_of_ble_eq_true rfl, Nat.le_of_ble_eq_true rfl⟩ ⟨Nat.le_of_ble_eq_true rfl, Nat.le_of_ble_eq_true rfl⟩ (Nat.le_of_ble_eq_true rfl) (fun σ1 h2 => ?_)
  obtain ⟨hw3, hf4⟩ := h2
  refine r_iload_n hX dX3_takeOff_20 rfl ?_
  refine r_aload_n hX dX3_takeOff_21 rfl ?_
  refine r_getR hX dX3_takeOff_22 fl_X3_31 (hC.1 0 (2, 0) rfl) rfl (hC.2.1 0 5 4 rfl) ?_
  refine r_getIV hX dX3_takeOff_25 fl_X3_112 (hC.1 4 (7, 0) rfl) rfl (nI (aW (dlK A v (aW A)))) hw3.1 ?_
  refine r_isubN hX dX3_takeOff_28 (by omega) ?_
  exact r_ireturn hX hQ dX3_takeOff_29 ⟨Nat.le_of_ble_eq_true rfl, Nat.le_of_ble_eq_true rfl⟩ (PI.mk ⟨rfl, RC.wf ⟨h0, hW, hTx⟩ (by omega) hw3 hf4 (dlK_same A v _).1 (dlK_same A v _).2.1 (dlK_same A v _).2.2.1 (dlK_same A v _).2.2.2.1 (dlK_same A v _).2.2.2.2.1 (dlK_same A v _).2.2.2.2.2.1 (dlK_same A v _).2.2.2.2.2.2, hf4.cb⟩)
